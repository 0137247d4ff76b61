theorem dX5_steep_12 : decode cX5_steep 12 = .ok (.invokestatic 51, 3) := by decide +kernel
theorem dX5_steep_15 : decode cX5_steep 15 = .ok (.ifCond .ne 5, 3) := by decide +kernel
theorem dX5_steep_18 : decode cX5_steep 18 = .ok (.iconst 0, 1) := by decide +kernel
theorem dX5_steep_19 : decode cX5_steep 19 = .ok (.ireturn, 1) := by decide +kernel
theorem dX5_steep_20 : decode cX5_steep 20 = .ok (.aload_n 0, 1) := by decide +kernel
theorem dX5_steep_21 : decode cX5_steep 21 = .ok (.getfield 21, 3) := by decide +kernel
theorem dX5_steep_24 : decode cX5_steep 24 = .ok (.iload_n 1, 1) := by decide +kernel
theorem dX5_steep_25 : decode cX5_steep 25 = .ok (.iload_n 2, 1) := by decide +kernel
theorem dX5_steep_26 : decode cX5_steep 26 = .ok (.invokevirtual 61, 3) := by decide +kernel
theorem dX5_steep_29 : decode cX5_steep 29 = .ok (.aload_n 0, 1) := by decide +kernel
theorem dX5_steep_30 : decode cX5_steep 30 = .ok (.getfield 39, 3) := by decide +kernel
theorem dX5_steep_33 : decode cX5_steep 33 = .ok (.invokevirtual 58, 3) := by decide +kernel
theorem dX5_steep_36 : decode cX5_steep 36 = .ok (.iconst 1, 1) := by decide +kernel
theorem dX5_steep_37 : decode cX5_steep 37 = .ok (.ireturn, 1) := by decide +kernel
theorem dX5_fault_0 : decode cX5_fault 0 = .ok (.aload_n 0, 1) := by decide +kernel
theorem dX5_fault_1 : decode cX5_fault 1 = .ok (.getfield 21, 3) := by decide +kernel
theorem dX5_fault_4 : decode cX5_fault 4 = .ok (.iload_n 1, 1) := by decide +kernel
theorem dX5_fault_5 : decode cX5_fault 5 = .ok (.invokevirtual 64, 3) := by decide +kernel
theorem dX5_fault_8 : decode cX5_fault 8 = .ok (.ifCond .eq 12, 3) := by decide +kernel
theorem dX5_fault_11 : decode cX5_fault 11 = .ok (.iload_n 2, 1) := by decide +kernel
theorem dX5_fault_12 : decode cX5_fault 12 = .ok (.bipush 30, 2) := by decide +kernel
theorem dX5_fault_14 : decode cX5_fault 14 = .ok (.invokestatic 67, 3) := by decide +kernel
theorem dX5_fault_17 : decode cX5_fault 17 = .ok (.ifCond .ne 5, 3) := by decide +kernel
theorem dX5_fault_20 : decode cX5_fault 20 = .ok (.iconst 0, 1) := by decide +kernel
theorem dX5_fault_21 : decode cX5_fault 21 = .ok (.ireturn, 1) := by decide +kernel
theorem dX5_fault_22 : decode cX5_fault 22 = .ok (.aload_n 0, 1) := by decide +kernel
theorem dX5_fault_23 : decode cX5_fault 23 = .ok (.getfield 21, 3) := by decide +kernel
theorem dX5_fault_26 : decode cX5_fault 26 = .ok (.iload_n 1, 1) := by decide +kernel
theorem dX5_fault_27 : decode cX5_fault 27 = .ok (.iload_n 2, 1) := by decide +kernel
theorem dX5_fault_28 : decode cX5_fault 28 = .ok (.invokevirtual 71, 3) := by decide +kernel
theorem dX5_fault_31 : decode cX5_fault 31 = .ok (.aload_n 0, 1) := by decide +kernel
theorem dX5_fault_32 : decode cX5_fault 32 = .ok (.getfield 39, 3) := by decide +kernel
theorem dX5_fault_35 : decode cX5_fault 35 = .ok (.invokevirtual 58, 3) := by decide +kernel
theorem dX5_fault_38 : decode cX5_fault 38 = .ok (.iconst 1, 1) := by decide +kernel
theorem dX5_fault_39 : decode cX5_fault 39 = .ok (.ireturn, 1) := by decide +kernel
theorem dX5_heal_0 : decode cX5_heal 0 = .ok (.aload_n 0, 1) := by decide +kernel
theorem dX5_heal_1 : decode cX5_heal 1 = .ok (.getfield 21, 3) := by decide +kernel
theorem dX5_heal_4 : decode cX5_heal 4 = .ok (.iload_n 1, 1) := by decide +kernel
theorem dX5_heal_5 : decode cX5_heal 5 = .ok (.invokevirtual 74, 3) := by decide +kernel
theorem dX5_heal_8 : decode cX5_heal 8 = .ok (.ifCond .ne 5, 3) := by decide +kernel
theorem dX5_heal_11 : decode cX5_heal 11 = .ok (.iconst 0, 1) := by decide +kernel
theorem dX5_heal_12 : decode cX5_heal 12 = .ok (.ireturn, 1) := by decide +kernel
theorem dX5_heal_13 : decode cX5_heal 13 = .ok (.aload_n 0, 1) := by decide +kernel
theorem dX5_heal_14 : decode cX5_heal 14 = .ok (.getfield 21, 3) := by decide +kernel
theorem dX5_heal_17 : decode cX5_heal 17 = .ok (.iload_n 1, 1) := by decide +kernel
theorem dX5_heal_18 : decode cX5_heal 18 = .ok (.invokevirtual 77, 3) := by decide +kernel
theorem dX5_heal_21 : decode cX5_heal 21 = .ok (.aload_n 0, 1) := by decide +kernel
theorem dX5_heal_22 : decode cX5_heal 22 = .ok (.getfield 39, 3) := by decide +kernel
theorem dX5_heal_25 : decode cX5_heal 25 = .ok (.invokevirtual 58, 3) := by decide +kernel
theorem dX5_heal_28 : decode cX5_heal 28 = .ok (.iconst 1, 1) := by decide +kernel
theorem dX5_heal_29 : decode cX5_heal 29 = .ok (.ireturn, 1) := by decide +kernel
theorem dX5_ground_0 : decode cX5_ground 0 = .ok (.iload_n 1, 1) := by decide +kernel
theorem dX5_ground_1 : decode cX5_ground 1 = .ok (.ifCond .lt 19, 3) := by decide +kernel
theorem dX5_ground_4 : decode cX5_ground 4 = .ok (.iload_n 1, 1) := by decide +kernel
theorem dX5_ground_5 : decode cX5_ground 5 = .ok (.aload_n 0, 1) := by decide +kernel
theorem dX5_ground_6 : decode cX5_ground 6 = .ok (.getfield 43, 3) := by decide +kernel
theorem dX5_ground_9 : decode cX5_ground 9 = .ok (.arraylength, 1) := by decide +kernel
theorem dX5_ground_10 : decode cX5_ground 10 = .ok (.if_icmp .ge 10, 3) := by decide +kernel
theorem dX5_ground_13 : decode cX5_ground 13 = .ok (.iload_n 2, 1) := by decide +kernel
theorem dX5_ground_14 : decode cX5_ground 14 = .ok (.invokestatic 51, 3) := by decide +kernel
theorem dX5_ground_17 : decode cX5_ground 17 = .ok (.ifCond .ne 5, 3) := by decide +kernel
theorem dX5_ground_20 : decode cX5_ground 20 = .ok (.iconst 0, 1) := by decide +kernel
theorem dX5_ground_21 : decode cX5_ground 21 = .ok (.ireturn, 1) := by decide +kernel
theorem dX5_ground_22 : decode cX5_ground 22 = .ok (.aload_n 0, 1) := by decide +kernel
theorem dX5_ground_23 : decode cX5_ground 23 = .ok (.getfield 43, 3) := by decide +kernel
theorem dX5_ground_26 : decode cX5_ground 26 = .ok (.iload_n 1, 1) := by decide +kernel
theorem dX5_ground_27 : decode cX5_ground 27 = .ok (.iload_n 2, 1) := by decide +kernel
theorem dX5_ground_28 : decode cX5_ground 28 = .ok (.iastore, 1) := by decide +kernel
theorem dX5_ground_29 : decode cX5_ground 29 = .ok (.iconst 1, 1) := by decide +kernel
theorem dX5_ground_30 : decode cX5_ground 30 = .ok (.ireturn, 1) := by decide +kernel
theorem dX5_sight_0 : decode cX5_sight 0 = .ok (.iload_n 1, 1) := by decide +kernel
theorem dX5_sight_1 : decode cX5_sight 1 = .ok (.ifCond .lt 19, 3) := by decide +kernel
theorem dX5_sight_4 : decode cX5_sight 4 = .ok (.iload_n 2, 1) := by decide +kernel
theorem dX5_sight_5 : decode cX5_sight 5 = .ok (.bipush 60, 2) := by decide +kernel
theorem dX5_sight_7 : decode cX5_sight 7 = .ok (.invokestatic 67, 3) := by decide +kernel
theorem dX5_sight_10 : decode cX5_sight 10 = .ok (.ifCond .eq 10, 3) := by decide +kernel
theorem dX5_sight_13 : decode cX5_sight 13 = .ok (.iload_n 3, 1) := by decide +kernel
theorem dX5_sight_14 : decode cX5_sight 14 = .ok (.invokestatic 51, 3) := by decide +kernel
theorem dX5_sight_17 : decode cX5_sight 17 = .ok (.ifCond .ne 5, 3) := by decide +kernel
theorem dX5_sight_20 : decode cX5_sight 20 = .ok (.iconst (-1), 1) := by decide +kernel
theorem dX5_sight_21 : decode cX5_sight 21 = .ok (.ireturn, 1) := by decide +kernel
theorem dX5_sight_22 : decode cX5_sight 22 = .ok (.iload_n 1, 1) := by decide +kernel
theorem dX5_sight_23 : decode cX5_sight 23 = .ok (.bipush 100, 2) := by decide +kernel
theorem dX5_sight_25 : decode cX5_sight 25 = .ok (.idiv, 1) := by decide +kernel
theorem dX5_sight_26 : decode cX5_sight 26 = .ok (.istore 4, 2) := by decide +kernel
theorem dX5_sight_28 : decode cX5_sight 28 = .ok (.iload_n 1, 1) := by decide +kernel
theorem dX5_sight_29 : decode cX5_sight 29 = .ok (.bipush 10, 2) := by decide +kernel
theorem dX5_sight_31 : decode cX5_sight 31 = .ok (.idiv, 1) := by decide +kernel
theorem dX5_sight_32 : decode cX5_sight 32 = .ok (.bipush 10, 2) := by decide +kernel
theorem dX5_sight_34 : decode cX5_sight 34 = .ok (.irem, 1) := by decide +kernel
theorem dX5_sight_35 : decode cX5_sight 35 = .ok (.istore 5, 2) := by decide +kernel
theorem dX5_sight_37 : decode cX5_sight 37 = .ok (.iload_n 1, 1) := by decide +kernel
theorem dX5_sight_38 : decode cX5_sight 38 = .ok (.bipush 10, 2) := by decide +kernel
theorem dX5_sight_40 : decode cX5_sight 40 = .ok (.irem, 1) := by decide +kernel
theorem dX5_sight_41 : decode cX5_sight 41 = .ok (.istore 6, 2) := by decide +kernel
theorem dX5_sight_43 : decode cX5_sight 43 = .ok (.aload_n 0, 1) := by decide +kernel
theorem dX5_sight_44 : decode cX5_sight 44 = .ok (.getfield 21, 3) := by decide +kernel
theorem dX5_sight_47 : decode cX5_sight 47 = .ok (.iload 4, 2) := by decide +kernel
theorem dX5_sight_49 : decode cX5_sight 49 = .ok (.iload 5, 2) := by decide +kernel
theorem dX5_sight_51 : decode cX5_sight 51 = .ok (.invokevirtual 81, 3) := by decide +kernel
theorem dX5_sight_54 : decode cX5_sight 54 = .ok (.ifCond .eq 9, 3) := by decide +kernel
theorem dX5_sight_57 : decode cX5_sight 57 = .ok (.iload 6, 2) := by decide +kernel
theorem dX5_sight_59 : decode cX5_sight 59 = .ok (.iconst 3, 1) := by decide +kernel
theorem dX5_sight_60 : decode cX5_sight 60 = .ok (.if_icmp .le 5, 3) := by decide +kernel
theorem dX5_sight_63 : decode cX5_sight 63 = .ok (.iconst (-1), 1) := by decide +kernel
theorem dX5_sight_64 : decode cX5_sight 64 = .ok (.ireturn, 1) := by decide +kernel
theorem dX5_sight_65 : decode cX5_sight 65 = .ok (.iload 6, 2) := by decide +kernel
theorem dX5_sight_67 : decode cX5_sight 67 = .ok (.iconst 3, 1) := by decide +kernel
theorem dX5_sight_68 : decode cX5_sight 68 = .ok (.if_icmp .ne 17, 3) := by decide +kernel
theorem dX5_sight_71 : decode cX5_sight 71 = .ok (.aload_n 0, 1) := by decide +kernel
theorem dX5_sight_72 : decode cX5_sight 72 = .ok (.getfield 21, 3) := by decide +kernel
theorem dX5_sight_75 : decode cX5_sight 75 = .ok (.iload 5, 2) := by decide +kernel
theorem dX5_sight_77 : decode cX5_sight 77 = .ok (.invokevirtual 64, 3) := by decide +kernel
theorem dX5_sight_80 : decode cX5_sight 80 = .ok (.ifCond .ne 5, 3) := by decide +kernel
theorem dX5_sight_83 : decode cX5_sight 83 = .ok (.iconst (-1), 1) := by decide +kernel
theorem dX5_sight_84 : decode cX5_sight 84 = .ok (.ireturn, 1) := by decide +kernel
theorem dX5_sight_85 : decode cX5_sight 85 = .ok (.aload_n 0, 1) := by decide +kernel
theorem dX5_sight_86 : decode cX5_sight 86 = .ok (.getfield 30, 3) := by decide +kernel
theorem dX5_sight_89 : decode cX5_sight 89 = .ok (.new 84, 3) := by decide +kernel
theorem dX5_sight_92 : decode cX5_sight 92 = .ok (.dup, 1) := by decide +kernel
theorem dX5_sight_93 : decode cX5_sight 93 = .ok (.iload 4, 2) := by decide +kernel
theorem dX5_sight_95 : decode cX5_sight 95 = .ok (.iload 5, 2) := by decide +kernel
theorem dX5_sight_97 : decode cX5_sight 97 = .ok (.iload 6, 2) := by decide +kernel
theorem dX5_sight_99 : decode cX5_sight 99 = .ok (.iload_n 2, 1) := by decide +kernel
theorem dX5_sight_100 : decode cX5_sight 100 = .ok (.iload_n 3, 1) := by decide +kernel
theorem dX5_sight_101 : decode cX5_sight 101 = .ok (.invokespecial 86, 3) := by decide +kernel
theorem dX5_sight_104 : decode cX5_sight 104 = .ok (.invokevirtual 89, 3) := by decide +kernel
theorem dX5_sight_107 : decode cX5_sight 107 = .ok (.istore 7, 2) := by decide +kernel
theorem dX5_sight_109 : decode cX5_sight 109 = .ok (.iload 7, 2) := by decide +kernel
theorem dX5_sight_111 : decode cX5_sight 111 = .ok (.iconst (-1), 1) := by decide +kernel
theorem dX5_sight_112 : decode cX5_sight 112 = .ok (.if_icmp .eq 10, 3) := by decide +kernel
theorem dX5_sight_115 : decode cX5_sight 115 = .ok (.aload_n 0, 1) := by decide +kernel
theorem dX5_sight_116 : decode cX5_sight 116 = .ok (.getfield 39, 3) := by decide +kernel
theorem dX5_sight_119 : decode cX5_sight 119 = .ok (.invokevirtual 93, 3) := by decide +kernel
theorem dX5_sight_122 : decode cX5_sight 122 = .ok (.iload 7, 2) := by decide +kernel
theorem dX5_sight_124 : decode cX5_sight 124 = .ok (.ireturn, 1) := by decide +kernel
theorem dX5_take_0 : decode cX5_take 0 = .ok (.aload_n 0, 1) := by decide +kernel
theorem dX5_take_1 : decode cX5_take 1 = .ok (.getfield 30, 3) := by decide +kernel
theorem dX5_take_4 : decode cX5_take 4 = .ok (.iload_n 1, 1) := by decide +kernel
theorem dX5_take_5 : decode cX5_take 5 = .ok (.invokevirtual 96, 3) := by decide +kernel
theorem dX5_take_8 : decode cX5_take 8 = .ok (.ifCond .ne 5, 3) := by decide +kernel
theorem dX5_take_11 : decode cX5_take 11 = .ok (.iconst 0, 1) := by decide +kernel
theorem dX5_take_12 : decode cX5_take 12 = .ok (.ireturn, 1) := by decide +kernel
theorem dX5_take_13 : decode cX5_take 13 = .ok (.aload_n 0, 1) := by decide +kernel
theorem dX5_take_14 : decode cX5_take 14 = .ok (.getfield 39, 3) := by decide +kernel
theorem dX5_take_17 : decode cX5_take 17 = .ok (.invokevirtual 93, 3) := by decide +kernel
theorem dX5_take_20 : decode cX5_take 20 = .ok (.iconst 1, 1) := by decide +kernel
theorem dX5_take_21 : decode cX5_take 21 = .ok (.ireturn, 1) := by decide +kernel
theorem dX5_quarrel_0 : decode cX5_quarrel 0 = .ok (.aload_n 0, 1) := by decide +kernel
theorem dX5_quarrel_1 : decode cX5_quarrel 1 = .ok (.getfield 39, 3) := by decide +kernel
theorem dX5_quarrel_4 : decode cX5_quarrel 4 = .ok (.invokevirtual 99, 3) := by decide +kernel
theorem dX5_quarrel_7 : decode cX5_quarrel 7 = .ok (.ifCond .eq 13, 3) := by decide +kernel
theorem dX5_quarrel_10 : decode cX5_quarrel 10 = .ok (.aload_n 0, 1) := by decide +kernel
theorem dX5_quarrel_11 : decode cX5_quarrel 11 = .ok (.getfield 39, 3) := by decide +kernel
theorem dX5_quarrel_14 : decode cX5_quarrel 14 = .ok (.invokevirtual 103, 3) := by decide +kernel
theorem dX5_quarrel_17 : decode cX5_quarrel 17 = .ok (.goto 4, 3) := by decide +kernel
theorem dX5_quarrel_20 : decode cX5_quarrel 20 = .ok (.iconst (-1), 1) := by decide +kernel
theorem dX5_quarrel_21 : decode cX5_quarrel 21 = .ok (.ireturn, 1) := by decide +kernel
theorem dX5_span_0 : decode cX5_span 0 = .ok (.aload_n 0, 1) := by decide +kernel
theorem dX5_span_1 : decode cX5_span 1 = .ok (.getfield 21, 3) := by decide +kernel
theorem dX5_span_4 : decode cX5_span 4 = .ok (.iload_n 1, 1) := by decide +kernel
theorem dX5_span_5 : decode cX5_span 5 = .ok (.iload_n 2, 1) := by decide +kernel
theorem dX5_span_6 : decode cX5_span 6 = .ok (.invokevirtual 81, 3) := by decide +kernel
theorem dX5_span_9 : decode cX5_span 9 = .ok (.ifCond .eq 20, 3) := by decide +kernel
theorem dX5_span_12 : decode cX5_span 12 = .ok (.iload_n 3, 1) := by decide +kernel
theorem dX5_span_13 : decode cX5_span 13 = .ok (.invokestatic 107, 3) := by decide +kernel
theorem dX5_span_16 : decode cX5_span 16 = .ok (.ifCond .eq 13, 3) := by decide +kernel
theorem dX5_span_19 : decode cX5_span 19 = .ok (.aload_n 0, 1) := by decide +kernel
theorem dX5_span_20 : decode cX5_span 20 = .ok (.getfield 39, 3) := by decide +kernel
theorem dX5_span_23 : decode cX5_span 23 = .ok (.invokevirtual 99, 3) := by decide +kernel
theorem dX5_span_26 : decode cX5_span 26 = .ok (.ifCond .ne 5, 3) := by decide +kernel
theorem dX5_span_29 : decode cX5_span 29 = .ok (.iconst (-1), 1) := by decide +kernel
theorem dX5_span_30 : decode cX5_span 30 = .ok (.ireturn, 1) := by decide +kernel
theorem dX5_span_31 : decode cX5_span 31 = .ok (.aload_n 0, 1) := by decide +kernel
theorem dX5_span_32 : decode cX5_span 32 = .ok (.aload_n 0, 1) := by decide +kernel
theorem dX5_span_33 : decode cX5_span 33 = .ok (.getfield 21, 3) := by decide +kernel
theorem dX5_span_36 : decode cX5_span 36 = .ok (.iload_n 1, 1) := by decide +kernel
theorem dX5_span_37 : decode cX5_span 37 = .ok (.iload_n 2, 1) := by decide +kernel
theorem dX5_span_38 : decode cX5_span 38 = .ok (.invokevirtual 110, 3) := by decide +kernel
theorem dX5_span_41 : decode cX5_span 41 = .ok (.iload_n 3, 1) := by decide +kernel
theorem dX5_span_42 : decode cX5_span 42 = .ok (.invokevirtual 113, 3) := by decide +kernel
theorem dX5_span_45 : decode cX5_span 45 = .ok (.ireturn, 1) := by decide +kernel
theorem dX5_open_0 : decode cX5_open 0 = .ok (.aload_n 0, 1) := by decide +kernel
theorem dX5_open_1 : decode cX5_open 1 = .ok (.getfield 39, 3) := by decide +kernel
theorem dX5_open_4 : decode cX5_open 4 = .ok (.invokevirtual 99, 3) := by decide +kernel
theorem dX5_open_7 : decode cX5_open 7 = .ok (.ifCond .eq 16, 3) := by decide +kernel
theorem dX5_open_10 : decode cX5_open 10 = .ok (.aload_n 0, 1) := by decide +kernel
theorem dX5_open_11 : decode cX5_open 11 = .ok (.getfield 39, 3) := by decide +kernel
theorem dX5_open_14 : decode cX5_open 14 = .ok (.invokevirtual 116, 3) := by decide +kernel
theorem dX5_open_17 : decode cX5_open 17 = .ok (.invokevirtual 120, 3) := by decide +kernel
theorem dX5_open_20 : decode cX5_open 20 = .ok (.goto 4, 3) := by decide +kernel
theorem dX5_open_23 : decode cX5_open 23 = .ok (.iconst (-1), 1) := by decide +kernel
theorem dX5_open_24 : decode cX5_open 24 = .ok (.ireturn, 1) := by decide +kernel
theorem dX5_layer_0 : decode cX5_layer 0 = .ok (.aload_n 0, 1) := by decide +kernel
theorem dX5_layer_1 : decode cX5_layer 1 = .ok (.getfield 21, 3) := by decide +kernel
theorem dX5_layer_4 : decode cX5_layer 4 = .ok (.iconst 0, 1) := by decide +kernel
theorem dX5_layer_5 : decode cX5_layer 5 = .ok (.iload_n 1, 1) := by decide +kernel
theorem dX5_layer_6 : decode cX5_layer 6 = .ok (.invokevirtual 81, 3) := by decide +kernel
theorem dX5_layer_9 : decode cX5_layer 9 = .ok (.ifCond .eq 20, 3) := by decide +kernel
theorem dX5_layer_12 : decode cX5_layer 12 = .ok (.iload_n 2, 1) := by decide +kernel
theorem dX5_layer_13 : decode cX5_layer 13 = .ok (.invokestatic 51, 3) := by decide +kernel
theorem dX5_layer_16 : decode cX5_layer 16 = .ok (.ifCond .eq 13, 3) := by decide +kernel
theorem dX5_layer_19 : decode cX5_layer 19 = .ok (.aload_n 0, 1) := by decide +kernel
theorem dX5_layer_20 : decode cX5_layer 20 = .ok (.getfield 39, 3) := by decide +kernel
theorem dX5_layer_23 : decode cX5_layer 23 = .ok (.invokevirtual 99, 3) := by decide +kernel
theorem dX5_layer_26 : decode cX5_layer 26 = .ok (.ifCond .ne 5, 3) := by decide +kernel
theorem dX5_layer_29 : decode cX5_layer 29 = .ok (.iconst (-1), 1) := by decide +kernel
theorem dX5_layer_30 : decode cX5_layer 30 = .ok (.ireturn, 1) := by decide +kernel
theorem dX5_layer_31 : decode cX5_layer 31 = .ok (.iconst 0, 1) := by decide +kernel
theorem dX5_layer_32 : decode cX5_layer 32 = .ok (.istore_n 3, 1) := by decide +kernel
theorem dX5_layer_33 : decode cX5_layer 33 = .ok (.iconst 0, 1) := by decide +kernel
theorem dX5_layer_34 : decode cX5_layer 34 = .ok (.istore 4, 2) := by decide +kernel
theorem dX5_layer_36 : decode cX5_layer 36 = .ok (.iconst 0, 1) := by decide +kernel
theorem dX5_layer_37 : decode cX5_layer 37 = .ok (.istore 5, 2) := by decide +kernel
theorem dX5_layer_39 : decode cX5_layer 39 = .ok (.iload 5, 2) := by decide +kernel
theorem dX5_layer_41 : decode cX5_layer 41 = .ok (.aload_n 0, 1) := by decide +kernel
theorem dX5_layer_42 : decode cX5_layer 42 = .ok (.getfield 21, 3) := by decide +kernel
theorem dX5_layer_45 : decode cX5_layer 45 = .ok (.invokevirtual 125, 3) := by decide +kernel
theorem dX5_layer_48 : decode cX5_layer 48 = .ok (.if_icmp .ge 49, 3) := by decide +kernel
theorem dX5_layer_51 : decode cX5_layer 51 = .ok (.aload_n 0, 1) := by decide +kernel
theorem dX5_layer_52 : decode cX5_layer 52 = .ok (.getfield 21, 3) := by decide +kernel
theorem dX5_layer_55 : decode cX5_layer 55 = .ok (.iload 5, 2) := by decide +kernel
theorem dX5_layer_57 : decode cX5_layer 57 = .ok (.iload_n 1, 1) := by decide +kernel
theorem dX5_layer_58 : decode cX5_layer 58 = .ok (.invokevirtual 110, 3) := by decide +kernel
theorem dX5_layer_61 : decode cX5_layer 61 = .ok (.istore 6, 2) := by decide +kernel
theorem dX5_layer_63 : decode cX5_layer 63 = .ok (.aload_n 0, 1) := by decide +kernel
theorem dX5_layer_64 : decode cX5_layer 64 = .ok (.iload 6, 2) := by decide +kernel
theorem dX5_layer_66 : decode cX5_layer 66 = .ok (.iconst 1, 1) := by decide +kernel
theorem dX5_layer_67 : decode cX5_layer 67 = .ok (.invokevirtual 113, 3) := by decide +kernel
theorem dX5_layer_70 : decode cX5_layer 70 = .ok (.iload_n 2, 1) := by decide +kernel
theorem dX5_layer_71 : decode cX5_layer 71 = .ok (.if_icmp .gt 6, 3) := by decide +kernel
theorem dX5_layer_74 : decode cX5_layer 74 = .ok (.iinc 3 1, 3) := by decide +kernel
theorem dX5_layer_77 : decode cX5_layer 77 = .ok (.aload_n 0, 1) := by decide +kernel
theorem dX5_layer_78 : decode cX5_layer 78 = .ok (.iload 6, 2) := by decide +kernel
theorem dX5_layer_80 : decode cX5_layer 80 = .ok (.iconst 0, 1) := by decide +kernel
theorem dX5_layer_81 : decode cX5_layer 81 = .ok (.invokevirtual 113, 3) := by decide +kernel
theorem dX5_layer_84 : decode cX5_layer 84 = .ok (.iload_n 2, 1) := by decide +kernel
theorem dX5_layer_85 : decode cX5_layer 85 = .ok (.if_icmp .gt 6, 3) := by decide +kernel
theorem dX5_layer_88 : decode cX5_layer 88 = .ok (.iinc 4 1, 3) := by decide +kernel
theorem dX5_layer_91 : decode cX5_layer 91 = .ok (.iinc 5 1, 3) := by decide +kernel
theorem dX5_layer_94 : decode cX5_layer 94 = .ok (.goto (-55), 3) := by decide +kernel
theorem dX5_layer_97 : decode cX5_layer 97 = .ok (.iload_n 3, 1) := by decide +kernel
theorem dX5_layer_98 : decode cX5_layer 98 = .ok (.iload 4, 2) := by decide +kernel
theorem dX5_layer_100 : decode cX5_layer 100 = .ok (.if_icmp .ne 7, 3) := by decide +kernel
theorem dX5_layer_103 : decode cX5_layer 103 = .ok (.iload_n 3, 1) := by decide +kernel
theorem dX5_layer_104 : decode cX5_layer 104 = .ok (.goto 4, 3) := by decide +kernel
theorem dX5_layer_107 : decode cX5_layer 107 = .ok (.iconst (-1), 1) := by decide +kernel
theorem dX5_layer_108 : decode cX5_layer 108 = .ok (.ireturn, 1) := by decide +kernel
theorem dX5_between_0 : decode cX5_between 0 = .ok (.aload_n 0, 1) := by decide +kernel
theorem dX5_between_1 : decode cX5_between 1 = .ok (.iload_n 1, 1) := by decide +kernel
theorem dX5_between_2 : decode cX5_between 2 = .ok (.invokevirtual 128, 3) := by decide +kernel
theorem dX5_between_5 : decode cX5_between 5 = .ok (.ifCond .eq 28, 3) := by decide +kernel
theorem dX5_between_8 : decode cX5_between 8 = .ok (.aload_n 0, 1) := by decide +kernel
theorem dX5_between_9 : decode cX5_between 9 = .ok (.iload_n 2, 1) := by decide +kernel
theorem dX5_between_10 : decode cX5_between 10 = .ok (.invokevirtual 128, 3) := by decide +kernel
theorem dX5_between_13 : decode cX5_between 13 = .ok (.ifCond .eq 20, 3) := by decide +kernel
theorem dX5_between_16 : decode cX5_between 16 = .ok (.iload_n 3, 1) := by decide +kernel
theorem dX5_between_17 : decode cX5_between 17 = .ok (.invokestatic 107, 3) := by decide +kernel
theorem dX5_between_20 : decode cX5_between 20 = .ok (.ifCond .eq 13, 3) := by decide +kernel
theorem dX5_between_23 : decode cX5_between 23 = .ok (.aload_n 0, 1) := by decide +kernel
theorem dX5_between_24 : decode cX5_between 24 = .ok (.getfield 39, 3) := by decide +kernel
theorem dX5_between_27 : decode cX5_between 27 = .ok (.invokevirtual 99, 3) := by decide +kernel
theorem dX5_between_30 : decode cX5_between 30 = .ok (.ifCond .ne 6, 3) := by decide +kernel
theorem dX5_between_33 : decode cX5_between 33 = .ok (.ldc 131, 2) := by decide +kernel
theorem dX5_between_35 : decode cX5_between 35 = .ok (.ireturn, 1) := by decide +kernel
theorem dX5_between_36 : decode cX5_between 36 = .ok (.aload_n 0, 1) := by decide +kernel
theorem dX5_between_37 : decode cX5_between 37 = .ok (.getfield 21, 3) := by decide +kernel
theorem dX5_between_40 : decode cX5_between 40 = .ok (.iload_n 1, 1) := by decide +kernel
theorem dX5_between_41 : decode cX5_between 41 = .ok (.bipush 10, 2) := by decide +kernel
theorem dX5_between_43 : decode cX5_between 43 = .ok (.idiv, 1) := by decide +kernel
theorem dX5_between_44 : decode cX5_between 44 = .ok (.iload_n 1, 1) := by decide +kernel
theorem dX5_between_45 : decode cX5_between 45 = .ok (.bipush 10, 2) := by decide +kernel
theorem dX5_between_47 : decode cX5_between 47 = .ok (.irem, 1) := by decide +kernel
theorem dX5_between_48 : decode cX5_between 48 = .ok (.invokevirtual 110, 3) := by decide +kernel
theorem dX5_between_51 : decode cX5_between 51 = .ok (.istore 4, 2) := by decide +kernel
theorem dX5_between_53 : decode cX5_between 53 = .ok (.aload_n 0, 1) := by decide +kernel
theorem dX5_between_54 : decode cX5_between 54 = .ok (.getfield 21, 3) := by decide +kernel
theorem dX5_between_57 : decode cX5_between 57 = .ok (.iload_n 2, 1) := by decide +kernel
theorem dX5_between_58 : decode cX5_between 58 = .ok (.bipush 10, 2) := by decide +kernel
theorem dX5_between_60 : decode cX5_between 60 = .ok (.idiv, 1) := by decide +kernel
theorem dX5_between_61 : decode cX5_between 61 = .ok (.iload_n 2, 1) := by decide +kernel
theorem dX5_between_62 : decode cX5_between 62 = .ok (.bipush 10, 2) := by decide +kernel
theorem dX5_between_64 : decode cX5_between 64 = .ok (.irem, 1) := by decide +kernel
theorem dX5_between_65 : decode cX5_between 65 = .ok (.invokevirtual 110, 3) := by decide +kernel
theorem dX5_between_68 : decode cX5_between 68 = .ok (.istore 5, 2) := by decide +kernel
theorem dX5_between_70 : decode cX5_between 70 = .ok (.aload_n 0, 1) := by decide +kernel
theorem dX5_between_71 : decode cX5_between 71 = .ok (.getfield 39, 3) := by decide +kernel
theorem dX5_between_74 : decode cX5_between 74 = .ok (.invokevirtual 116, 3) := by decide +kernel
theorem dX5_between_77 : decode cX5_between 77 = .ok (.astore 6, 2) := by decide +kernel
theorem dX5_between_79 : decode cX5_between 79 = .ok (.iload_n 3, 1) := by decide +kernel
theorem dX5_between_80 : decode cX5_between 80 = .ok (.ifCond .ne 16, 3) := by decide +kernel
theorem dX5_between_83 : decode cX5_between 83 = .ok (.aload 6, 2) := by decide +kernel
theorem dX5_between_85 : decode cX5_between 85 = .ok (.iload 5, 2) := by decide +kernel
theorem dX5_between_87 : decode cX5_between 87 = .ok (.iload 4, 2) := by decide +kernel
theorem dX5_between_89 : decode cX5_between 89 = .ok (.invokevirtual 132, 3) := by decide +kernel
theorem dX5_between_92 : decode cX5_between 92 = .ok (.ineg, 1) := by decide +kernel
theorem dX5_between_93 : decode cX5_between 93 = .ok (.goto 12, 3) := by decide +kernel
theorem dX5_between_96 : decode cX5_between 96 = .ok (.aload 6, 2) := by decide +kernel
theorem dX5_between_98 : decode cX5_between 98 = .ok (.iload 4, 2) := by decide +kernel
theorem dX5_between_100 : decode cX5_between 100 = .ok (.iload 5, 2) := by decide +kernel
theorem dX5_between_102 : decode cX5_between 102 = .ok (.invokevirtual 132, 3) := by decide +kernel
theorem dX5_between_105 : decode cX5_between 105 = .ok (.ireturn, 1) := by decide +kernel
theorem dX5_worn_0 : decode cX5_worn 0 = .ok (.aload_n 0, 1) := by decide +kernel
theorem dX5_worn_1 : decode cX5_worn 1 = .ok (.getfield 21, 3) := by decide +kernel
theorem dX5_worn_4 : decode cX5_worn 4 = .ok (.iload_n 1, 1) := by decide +kernel
theorem dX5_worn_5 : decode cX5_worn 5 = .ok (.iload_n 2, 1) := by decide +kernel
theorem dX5_worn_6 : decode cX5_worn 6 = .ok (.invokevirtual 81, 3) := by decide +kernel
theorem dX5_worn_9 : decode cX5_worn 9 = .ok (.ifCond .eq 22, 3) := by decide +kernel
theorem dX5_worn_12 : decode cX5_worn 12 = .ok (.aload_n 0, 1) := by decide +kernel
theorem dX5_worn_13 : decode cX5_worn 13 = .ok (.getfield 39, 3) := by decide +kernel
theorem dX5_worn_16 : decode cX5_worn 16 = .ok (.invokevirtual 99, 3) := by decide +kernel
theorem dX5_worn_19 : decode cX5_worn 19 = .ok (.ifCond .eq 12, 3) := by decide +kernel
theorem dX5_worn_22 : decode cX5_worn 22 = .ok (.iload_n 2, 1) := by decide +kernel
theorem dX5_worn_23 : decode cX5_worn 23 = .ok (.aload_n 0, 1) := by decide +kernel
theorem dX5_worn_24 : decode cX5_worn 24 = .ok (.getfield 43, 3) := by decide +kernel
theorem dX5_worn_27 : decode cX5_worn 27 = .ok (.arraylength, 1) := by decide +kernel
theorem dX5_worn_28 : decode cX5_worn 28 = .ok (.if_icmp .lt 5, 3) := by decide +kernel
theorem dX5_worn_31 : decode cX5_worn 31 = .ok (.iconst (-1), 1) := by decide +kernel
theorem dX5_worn_32 : decode cX5_worn 32 = .ok (.ireturn, 1) := by decide +kernel
theorem dX5_worn_33 : decode cX5_worn 33 = .ok (.aload_n 0, 1) := by decide +kernel
theorem dX5_worn_34 : decode cX5_worn 34 = .ok (.getfield 21, 3) := by decide +kernel
theorem dX5_worn_37 : decode cX5_worn 37 = .ok (.iload_n 1, 1) := by decide +kernel
theorem dX5_worn_38 : decode cX5_worn 38 = .ok (.iload_n 2, 1) := by decide +kernel
theorem dX5_worn_39 : decode cX5_worn 39 = .ok (.invokevirtual 110, 3) := by decide +kernel
theorem dX5_worn_42 : decode cX5_worn 42 = .ok (.istore_n 3, 1) := by decide +kernel
theorem dX5_worn_43 : decode cX5_worn 43 = .ok (.aload_n 0, 1) := by decide +kernel
theorem dX5_worn_44 : decode cX5_worn 44 = .ok (.iload_n 3, 1) := by decide +kernel
theorem dX5_worn_45 : decode cX5_worn 45 = .ok (.iconst 1, 1) := by decide +kernel
theorem dX5_worn_46 : decode cX5_worn 46 = .ok (.invokevirtual 113, 3) := by decide +kernel
theorem dX5_worn_49 : decode cX5_worn 49 = .ok (.aload_n 0, 1) := by decide +kernel
theorem dX5_worn_50 : decode cX5_worn 50 = .ok (.getfield 43, 3) := by decide +kernel
theorem dX5_worn_53 : decode cX5_worn 53 = .ok (.iload_n 2, 1) := by decide +kernel
theorem dX5_worn_54 : decode cX5_worn 54 = .ok (.iaload, 1) := by decide +kernel
theorem dX5_worn_55 : decode cX5_worn 55 = .ok (.if_icmp .ge 5, 3) := by decide +kernel
theorem dX5_worn_58 : decode cX5_worn 58 = .ok (.iconst 2, 1) := by decide +kernel
theorem dX5_worn_59 : decode cX5_worn 59 = .ok (.ireturn, 1) := by decide +kernel
theorem dX5_worn_60 : decode cX5_worn 60 = .ok (.aload_n 0, 1) := by decide +kernel
theorem dX5_worn_61 : decode cX5_worn 61 = .ok (.iload_n 3, 1) := by decide +kernel
theorem dX5_worn_62 : decode cX5_worn 62 = .ok (.iconst 0, 1) := by decide +kernel
theorem dX5_worn_63 : decode cX5_worn 63 = .ok (.invokevirtual 113, 3) := by decide +kernel
theorem dX5_worn_66 : decode cX5_worn 66 = .ok (.aload_n 0, 1) := by decide +kernel
theorem dX5_worn_67 : decode cX5_worn 67 = .ok (.getfield 43, 3) := by decide +kernel
theorem dX5_worn_70 : decode cX5_worn 70 = .ok (.iload_n 2, 1) := by decide +kernel
theorem dX5_worn_71 : decode cX5_worn 71 = .ok (.iaload, 1) := by decide +kernel
theorem dX5_worn_72 : decode cX5_worn 72 = .ok (.if_icmp .ge 7, 3) := by decide +kernel
theorem dX5_worn_75 : decode cX5_worn 75 = .ok (.iconst 1, 1) := by decide +kernel
theorem dX5_worn_76 : decode cX5_worn 76 = .ok (.goto 4, 3) := by decide +kernel
theorem dX5_worn_79 : decode cX5_worn 79 = .ok (.iconst 0, 1) := by decide +kernel
theorem dX5_worn_80 : decode cX5_worn 80 = .ok (.ireturn, 1) := by decide +kernel
theorem dX5_tells_0 : decode cX5_tells 0 = .ok (.aload_n 0, 1) := by decide +kernel
theorem dX5_tells_1 : decode cX5_tells 1 = .ok (.getfield 21, 3) := by decide +kernel
theorem dX5_tells_4 : decode cX5_tells 4 = .ok (.iload_n 1, 1) := by decide +kernel
theorem dX5_tells_5 : decode cX5_tells 5 = .ok (.iload_n 2, 1) := by decide +kernel
theorem dX5_tells_6 : decode cX5_tells 6 = .ok (.invokevirtual 81, 3) := by decide +kernel
theorem dX5_tells_9 : decode cX5_tells 9 = .ok (.ifCond .eq 13, 3) := by decide +kernel
theorem dX5_tells_12 : decode cX5_tells 12 = .ok (.aload_n 0, 1) := by decide +kernel
theorem dX5_tells_13 : decode cX5_tells 13 = .ok (.getfield 39, 3) := by decide +kernel
theorem dX5_tells_16 : decode cX5_tells 16 = .ok (.invokevirtual 99, 3) := by decide +kernel
theorem dX5_tells_19 : decode cX5_tells 19 = .ok (.ifCond .ne 5, 3) := by decide +kernel
theorem dX5_tells_22 : decode cX5_tells 22 = .ok (.iconst (-1), 1) := by decide +kernel
theorem dX5_tells_23 : decode cX5_tells 23 = .ok (.ireturn, 1) := by decide +kernel
theorem dX5_tells_24 : decode cX5_tells 24 = .ok (.aload_n 0, 1) := by decide +kernel
theorem dX5_tells_25 : decode cX5_tells 25 = .ok (.aload_n 0, 1) := by decide +kernel
theorem dX5_tells_26 : decode cX5_tells 26 = .ok (.getfield 21, 3) := by decide +kernel
theorem dX5_tells_29 : decode cX5_tells 29 = .ok (.iload_n 1, 1) := by decide +kernel
theorem dX5_tells_30 : decode cX5_tells 30 = .ok (.iload_n 2, 1) := by decide +kernel
theorem dX5_tells_31 : decode cX5_tells 31 = .ok (.invokevirtual 110, 3) := by decide +kernel
theorem dX5_tells_34 : decode cX5_tells 34 = .ok (.invokevirtual 135, 3) := by decide +kernel
theorem dX5_tells_37 : decode cX5_tells 37 = .ok (.ireturn, 1) := by decide +kernel
theorem dX5_next_0 : decode cX5_next 0 = .ok (.aload_n 0, 1) := by decide +kernel
theorem dX5_next_1 : decode cX5_next 1 = .ok (.getfield 39, 3) := by decide +kernel
theorem dX5_next_4 : decode cX5_next 4 = .ok (.invokevirtual 99, 3) := by decide +kernel
theorem dX5_next_7 : decode cX5_next 7 = .ok (.ifCond .ne 5, 3) := by decide +kernel
theorem dX5_next_10 : decode cX5_next 10 = .ok (.iconst (-1), 1) := by decide +kernel
theorem dX5_next_11 : decode cX5_next 11 = .ok (.ireturn, 1) := by decide +kernel
theorem dX5_next_12 : decode cX5_next 12 = .ok (.iconst (-1), 1) := by decide +kernel
theorem dX5_next_13 : decode cX5_next 13 = .ok (.istore_n 1, 1) := by decide +kernel
theorem dX5_next_14 : decode cX5_next 14 = .ok (.iconst (-1), 1) := by decide +kernel
theorem dX5_next_15 : decode cX5_next 15 = .ok (.istore_n 2, 1) := by decide +kernel
theorem dX5_next_16 : decode cX5_next 16 = .ok (.iconst 0, 1) := by decide +kernel
theorem dX5_next_17 : decode cX5_next 17 = .ok (.istore_n 3, 1) := by decide +kernel
theorem dX5_next_18 : decode cX5_next 18 = .ok (.iload_n 3, 1) := by decide +kernel
theorem dX5_next_19 : decode cX5_next 19 = .ok (.aload_n 0, 1) := by decide +kernel
theorem dX5_next_20 : decode cX5_next 20 = .ok (.getfield 21, 3) := by decide +kernel
theorem dX5_next_23 : decode cX5_next 23 = .ok (.invokevirtual 125, 3) := by decide +kernel
theorem dX5_next_26 : decode cX5_next 26 = .ok (.if_icmp .ge 63, 3) := by decide +kernel
theorem dX5_next_29 : decode cX5_next 29 = .ok (.iconst 0, 1) := by decide +kernel
theorem dX5_next_30 : decode cX5_next 30 = .ok (.istore 4, 2) := by decide +kernel
theorem dX5_next_32 : decode cX5_next 32 = .ok (.iload 4, 2) := by decide +kernel
theorem dX5_next_34 : decode cX5_next 34 = .ok (.aload_n 0, 1) := by decide +kernel
theorem dX5_next_35 : decode cX5_next 35 = .ok (.getfield 21, 3) := by decide +kernel
theorem dX5_next_38 : decode cX5_next 38 = .ok (.invokevirtual 139, 3) := by decide +kernel
theorem dX5_next_41 : decode cX5_next 41 = .ok (.if_icmp .ge 42, 3) := by decide +kernel
theorem dX5_next_44 : decode cX5_next 44 = .ok (.aload_n 0, 1) := by decide +kernel
theorem dX5_next_45 : decode cX5_next 45 = .ok (.aload_n 0, 1) := by decide +kernel
theorem dX5_next_46 : decode cX5_next 46 = .ok (.getfield 21, 3) := by decide +kernel
theorem dX5_next_49 : decode cX5_next 49 = .ok (.iload_n 3, 1) := by decide +kernel
theorem dX5_next_50 : decode cX5_next 50 = .ok (.iload 4, 2) := by decide +kernel
theorem dX5_next_52 : decode cX5_next 52 = .ok (.invokevirtual 110, 3) := by decide +kernel
theorem dX5_next_55 : decode cX5_next 55 = .ok (.invokevirtual 135, 3) := by decide +kernel
theorem dX5_next_58 : decode cX5_next 58 = .ok (.istore 5, 2) := by decide +kernel
theorem dX5_next_60 : decode cX5_next 60 = .ok (.iload 5, 2) := by decide +kernel
theorem dX5_next_62 : decode cX5_next 62 = .ok (.iload_n 2, 1) := by decide +kernel
theorem dX5_next_63 : decode cX5_next 63 = .ok (.if_icmp .le 14, 3) := by decide +kernel
theorem dX5_next_66 : decode cX5_next 66 = .ok (.iload 5, 2) := by decide +kernel
theorem dX5_next_68 : decode cX5_next 68 = .ok (.istore_n 2, 1) := by decide +kernel
theorem dX5_next_69 : decode cX5_next 69 = .ok (.iload_n 3, 1) := by decide +kernel
theorem dX5_next_70 : decode cX5_next 70 = .ok (.bipush 10, 2) := by decide +kernel
theorem dX5_next_72 : decode cX5_next 72 = .ok (.imul, 1) := by decide +kernel
theorem dX5_next_73 : decode cX5_next 73 = .ok (.iload 4, 2) := by decide +kernel
theorem dX5_next_75 : decode cX5_next 75 = .ok (.iadd, 1) := by decide +kernel
theorem dX5_next_76 : decode cX5_next 76 = .ok (.istore_n 1, 1) := by decide +kernel
theorem dX5_next_77 : decode cX5_next 77 = .ok (.iinc 4 1, 3) := by decide +kernel
theorem dX5_next_80 : decode cX5_next 80 = .ok (.goto (-48), 3) := by decide +kernel
theorem dX5_next_83 : decode cX5_next 83 = .ok (.iinc 3 1, 3) := by decide +kernel
theorem dX5_next_86 : decode cX5_next 86 = .ok (.goto (-68), 3) := by decide +kernel
theorem dX5_next_89 : decode cX5_next 89 = .ok (.iload_n 1, 1) := by decide +kernel
theorem dX5_next_90 : decode cX5_next 90 = .ok (.ireturn, 1) := by decide +kernel
theorem dX5_bend_0 : decode cX5_bend 0 = .ok (.iload_n 1, 1) := by decide +kernel
theorem dX5_bend_1 : decode cX5_bend 1 = .ok (.invokestatic 107, 3) := by decide +kernel
theorem dX5_bend_4 : decode cX5_bend 4 = .ok (.ifCond .eq 13, 3) := by decide +kernel
theorem dX5_bend_7 : decode cX5_bend 7 = .ok (.aload_n 0, 1) := by decide +kernel
theorem dX5_bend_8 : decode cX5_bend 8 = .ok (.getfield 39, 3) := by decide +kernel
theorem dX5_bend_11 : decode cX5_bend 11 = .ok (.invokevirtual 99, 3) := by decide +kernel
theorem dX5_bend_14 : decode cX5_bend 14 = .ok (.ifCond .ne 5, 3) := by decide +kernel
theorem dX5_bend_17 : decode cX5_bend 17 = .ok (.iconst (-1), 1) := by decide +kernel
theorem dX5_bend_18 : decode cX5_bend 18 = .ok (.ireturn, 1) := by decide +kernel
theorem dX5_bend_19 : decode cX5_bend 19 = .ok (.iconst 0, 1) := by decide +kernel
theorem dX5_bend_20 : decode cX5_bend 20 = .ok (.istore_n 2, 1) := by decide +kernel
theorem dX5_bend_21 : decode cX5_bend 21 = .ok (.iconst 0, 1) := by decide +kernel
theorem dX5_bend_22 : decode cX5_bend 22 = .ok (.istore_n 3, 1) := by decide +kernel
theorem dX5_bend_23 : decode cX5_bend 23 = .ok (.iload_n 3, 1) := by decide +kernel
theorem dX5_bend_24 : decode cX5_bend 24 = .ok (.aload_n 0, 1) := by decide +kernel
theorem dX5_bend_25 : decode cX5_bend 25 = .ok (.getfield 21, 3) := by decide +kernel
theorem dX5_bend_28 : decode cX5_bend 28 = .ok (.invokevirtual 125, 3) := by decide +kernel
theorem dX5_bend_31 : decode cX5_bend 31 = .ok (.if_icmp .ge 103, 3) := by decide +kernel
theorem dX5_bend_34 : decode cX5_bend 34 = .ok (.iconst 1, 1) := by decide +kernel
theorem dX5_bend_35 : decode cX5_bend 35 = .ok (.istore 4, 2) := by decide +kernel
theorem dX5_bend_37 : decode cX5_bend 37 = .ok (.iload 4, 2) := by decide +kernel
theorem dX5_bend_39 : decode cX5_bend 39 = .ok (.iconst 1, 1) := by decide +kernel
theorem dX5_bend_40 : decode cX5_bend 40 = .ok (.iadd, 1) := by decide +kernel
theorem dX5_bend_41 : decode cX5_bend 41 = .ok (.aload_n 0, 1) := by decide +kernel
theorem dX5_bend_42 : decode cX5_bend 42 = .ok (.getfield 21, 3) := by decide +kernel
theorem dX5_bend_45 : decode cX5_bend 45 = .ok (.invokevirtual 139, 3) := by decide +kernel
theorem dX5_bend_48 : decode cX5_bend 48 = .ok (.if_icmp .ge 80, 3) := by decide +kernel
theorem dX5_bend_51 : decode cX5_bend 51 = .ok (.aload_n 0, 1) := by decide +kernel
theorem dX5_bend_52 : decode cX5_bend 52 = .ok (.aload_n 0, 1) := by decide +kernel
theorem dX5_bend_53 : decode cX5_bend 53 = .ok (.getfield 21, 3) := by decide +kernel
theorem dX5_bend_56 : decode cX5_bend 56 = .ok (.iload_n 3, 1) := by decide +kernel
theorem dX5_bend_57 : decode cX5_bend 57 = .ok (.iload 4, 2) := by decide +kernel
theorem dX5_bend_59 : decode cX5_bend 59 = .ok (.invokevirtual 110, 3) := by decide +kernel
theorem dX5_bend_62 : decode cX5_bend 62 = .ok (.iload_n 1, 1) := by decide +kernel
theorem dX5_bend_63 : decode cX5_bend 63 = .ok (.invokevirtual 113, 3) := by decide +kernel
theorem dX5_bend_66 : decode cX5_bend 66 = .ok (.istore 5, 2) := by decide +kernel
theorem dX5_bend_68 : decode cX5_bend 68 = .ok (.aload_n 0, 1) := by decide +kernel
theorem dX5_bend_69 : decode cX5_bend 69 = .ok (.aload_n 0, 1) := by decide +kernel
theorem dX5_bend_70 : decode cX5_bend 70 = .ok (.getfield 21, 3) := by decide +kernel
theorem dX5_bend_73 : decode cX5_bend 73 = .ok (.iload_n 3, 1) := by decide +kernel
theorem dX5_bend_74 : decode cX5_bend 74 = .ok (.iload 4, 2) := by decide +kernel
theorem dX5_bend_76 : decode cX5_bend 76 = .ok (.iconst 1, 1) := by decide +kernel
theorem dX5_bend_77 : decode cX5_bend 77 = .ok (.isub, 1) := by decide +kernel
theorem dX5_bend_78 : decode cX5_bend 78 = .ok (.invokevirtual 110, 3) := by decide +kernel
theorem dX5_bend_81 : decode cX5_bend 81 = .ok (.iload_n 1, 1) := by decide +kernel
theorem dX5_bend_82 : decode cX5_bend 82 = .ok (.invokevirtual 113, 3) := by decide +kernel
theorem dX5_bend_85 : decode cX5_bend 85 = .ok (.istore 6, 2) := by decide +kernel
theorem dX5_bend_87 : decode cX5_bend 87 = .ok (.aload_n 0, 1) := by decide +kernel
theorem dX5_bend_88 : decode cX5_bend 88 = .ok (.aload_n 0, 1) := by decide +kernel
theorem dX5_bend_89 : decode cX5_bend 89 = .ok (.getfield 21, 3) := by decide +kernel
theorem dX5_bend_92 : decode cX5_bend 92 = .ok (.iload_n 3, 1) := by decide +kernel
theorem dX5_bend_93 : decode cX5_bend 93 = .ok (.iload 4, 2) := by decide +kernel
theorem dX5_bend_95 : decode cX5_bend 95 = .ok (.iconst 1, 1) := by decide +kernel
theorem dX5_bend_96 : decode cX5_bend 96 = .ok (.iadd, 1) := by decide +kernel
theorem dX5_bend_97 : decode cX5_bend 97 = .ok (.invokevirtual 110, 3) := by decide +kernel
theorem dX5_bend_100 : decode cX5_bend 100 = .ok (.iload_n 1, 1) := by decide +kernel
theorem dX5_bend_101 : decode cX5_bend 101 = .ok (.invokevirtual 113, 3) := by decide +kernel
theorem dX5_bend_104 : decode cX5_bend 104 = .ok (.istore 7, 2) := by decide +kernel
theorem dX5_bend_106 : decode cX5_bend 106 = .ok (.iload_n 2, 1) := by decide +kernel
theorem dX5_bend_107 : decode cX5_bend 107 = .ok (.iconst 2, 1) := by decide +kernel
theorem dX5_bend_108 : decode cX5_bend 108 = .ok (.iload 5, 2) := by decide +kernel
theorem dX5_bend_110 : decode cX5_bend 110 = .ok (.imul, 1) := by decide +kernel
theorem dX5_bend_111 : decode cX5_bend 111 = .ok (.iload 6, 2) := by decide +kernel
theorem dX5_bend_113 : decode cX5_bend 113 = .ok (.isub, 1) := by decide +kernel
theorem dX5_bend_114 : decode cX5_bend 114 = .ok (.iload 7, 2) := by decide +kernel
theorem dX5_bend_116 : decode cX5_bend 116 = .ok (.isub, 1) := by decide +kernel
theorem dX5_bend_117 : decode cX5_bend 117 = .ok (.invokestatic 142, 3) := by decide +kernel
theorem dX5_bend_120 : decode cX5_bend 120 = .ok (.iadd, 1) := by decide +kernel
theorem dX5_bend_121 : decode cX5_bend 121 = .ok (.istore_n 2, 1) := by decide +kernel
theorem dX5_bend_122 : decode cX5_bend 122 = .ok (.iinc 4 1, 3) := by decide +kernel
theorem dX5_bend_125 : decode cX5_bend 125 = .ok (.goto (-88), 3) := by decide +kernel
theorem dX5_bend_128 : decode cX5_bend 128 = .ok (.iinc 3 1, 3) := by decide +kernel
theorem dX5_bend_131 : decode cX5_bend 131 = .ok (.goto (-108), 3) := by decide +kernel
theorem dX5_bend_134 : decode cX5_bend 134 = .ok (.iload_n 2, 1) := by decide +kernel
theorem dX5_bend_135 : decode cX5_bend 135 = .ok (.ireturn, 1) := by decide +kernel
theorem dX5_told_0 : decode cX5_told 0 = .ok (.aload_n 0, 1) := by decide +kernel
theorem dX5_told_1 : decode cX5_told 1 = .ok (.getfield 30, 3) := by decide +kernel
theorem dX5_told_4 : decode cX5_told 4 = .ok (.iload_n 1, 1) := by decide +kernel
theorem dX5_told_5 : decode cX5_told 5 = .ok (.invokevirtual 145, 3) := by decide +kernel
theorem dX5_told_8 : decode cX5_told 8 = .ok (.astore_n 3, 1) := by decide +kernel
theorem dX5_told_9 : decode cX5_told 9 = .ok (.aload_n 3, 1) := by decide +kernel
theorem dX5_told_10 : decode cX5_told 10 = .ok (.ifnonnull 6, 3) := by decide +kernel
theorem dX5_told_13 : decode cX5_told 13 = .ok (.ldc 131, 2) := by decide +kernel
theorem dX5_told_15 : decode cX5_told 15 = .ok (.ireturn, 1) := by decide +kernel
theorem dX5_told_16 : decode cX5_told 16 = .ok (.iload_n 2, 1) := by decide +kernel
theorem dX5_told_17 : decode cX5_told 17 = .ok (.tableswitch 91 0 5 #[39, 44, 49, 54, 59, 64], 39) := by decide +kernel
theorem dX5_told_56 : decode cX5_told 56 = .ok (.aload_n 3, 1) := by decide +kernel
theorem dX5_told_57 : decode cX5_told 57 = .ok (.invokevirtual 149, 3) := by decide +kernel
theorem dX5_told_60 : decode cX5_told 60 = .ok (.ireturn, 1) := by decide +kernel
theorem dX5_told_61 : decode cX5_told 61 = .ok (.aload_n 3, 1) := by decide +kernel
theorem dX5_told_62 : decode cX5_told 62 = .ok (.invokevirtual 152, 3) := by decide +kernel
theorem dX5_told_65 : decode cX5_told 65 = .ok (.ireturn, 1) := by decide +kernel
theorem dX5_told_66 : decode cX5_told 66 = .ok (.aload_n 3, 1) := by decide +kernel
theorem dX5_told_67 : decode cX5_told 67 = .ok (.invokevirtual 155, 3) := by decide +kernel
theorem dX5_told_70 : decode cX5_told 70 = .ok (.ireturn, 1) := by decide +kernel
theorem dX5_told_71 : decode cX5_told 71 = .ok (.aload_n 3, 1) := by decide +kernel
theorem dX5_told_72 : decode cX5_told 72 = .ok (.invokevirtual 158, 3) := by decide +kernel
theorem dX5_told_75 : decode cX5_told 75 = .ok (.ireturn, 1) := by decide +kernel
theorem dX5_told_76 : decode cX5_told 76 = .ok (.aload_n 3, 1) := by decide +kernel
theorem dX5_told_77 : decode cX5_told 77 = .ok (.invokevirtual 161, 3) := by decide +kernel
theorem dX5_told_80 : decode cX5_told 80 = .ok (.ireturn, 1) := by decide +kernel
theorem dX5_told_81 : decode cX5_told 81 = .ok (.aload_n 0, 1) := by decide +kernel
theorem dX5_told_82 : decode cX5_told 82 = .ok (.getfield 39, 3) := by decide +kernel
theorem dX5_told_85 : decode cX5_told 85 = .ok (.invokevirtual 99, 3) := by decide +kernel
theorem dX5_told_88 : decode cX5_told 88 = .ok (.ifCond .eq 17, 3) := by decide +kernel
theorem dX5_told_91 : decode cX5_told 91 = .ok (.aload_n 0, 1) := by decide +kernel
theorem dX5_told_92 : decode cX5_told 92 = .ok (.getfield 39, 3) := by decide +kernel
theorem dX5_told_95 : decode cX5_told 95 = .ok (.invokevirtual 103, 3) := by decide +kernel
theorem dX5_told_98 : decode cX5_told 98 = .ok (.iload_n 1, 1) := by decide +kernel
theorem dX5_told_99 : decode cX5_told 99 = .ok (.ishr, 1) := by decide +kernel
theorem dX5_told_100 : decode cX5_told 100 = .ok (.iconst 1, 1) := by decide +kernel
theorem dX5_told_101 : decode cX5_told 101 = .ok (.iand, 1) := by decide +kernel
theorem dX5_told_102 : decode cX5_told 102 = .ok (.goto 5, 3) := by decide +kernel
theorem dX5_told_105 : decode cX5_told 105 = .ok (.ldc 131, 2) := by decide +kernel
theorem dX5_told_107 : decode cX5_told 107 = .ok (.ireturn, 1) := by decide +kernel
theorem dX5_told_108 : decode cX5_told 108 = .ok (.ldc 131, 2) := by decide +kernel
theorem dX5_told_110 : decode cX5_told 110 = .ok (.ireturn, 1) := by decide +kernel
theorem dX5_count_0 : decode cX5_count 0 = .ok (.iload_n 1, 1) := by decide +kernel
theorem dX5_count_1 : decode cX5_count 1 = .ok (.tableswitch 66 0 3 #[31, 39, 47, 58], 31) := by decide +kernel
theorem dX5_count_32 : decode cX5_count 32 = .ok (.aload_n 0, 1) := by decide +kernel
theorem dX5_count_33 : decode cX5_count 33 = .ok (.getfield 21, 3) := by decide +kernel
theorem dX5_count_36 : decode cX5_count 36 = .ok (.invokevirtual 139, 3) := by decide +kernel
theorem dX5_count_39 : decode cX5_count 39 = .ok (.ireturn, 1) := by decide +kernel
theorem dX5_count_40 : decode cX5_count 40 = .ok (.aload_n 0, 1) := by decide +kernel
theorem dX5_count_41 : decode cX5_count 41 = .ok (.getfield 21, 3) := by decide +kernel
theorem dX5_count_44 : decode cX5_count 44 = .ok (.invokevirtual 125, 3) := by decide +kernel
theorem dX5_count_47 : decode cX5_count 47 = .ok (.ireturn, 1) := by decide +kernel
theorem dX5_count_48 : decode cX5_count 48 = .ok (.aload_n 0, 1) := by decide +kernel
theorem dX5_count_49 : decode cX5_count 49 = .ok (.getfield 30, 3) := by decide +kernel
theorem dX5_count_52 : decode cX5_count 52 = .ok (.invokevirtual 164, 3) := by decide +kernel
theorem dX5_count_55 : decode cX5_count 55 = .ok (.invokestatic 167, 3) := by decide +kernel
theorem dX5_count_58 : decode cX5_count 58 = .ok (.ireturn, 1) := by decide +kernel
theorem dX5_count_59 : decode cX5_count 59 = .ok (.aload_n 0, 1) := by decide +kernel
theorem dX5_count_60 : decode cX5_count 60 = .ok (.getfield 21, 3) := by decide +kernel
theorem dX5_count_63 : decode cX5_count 63 = .ok (.invokevirtual 172, 3) := by decide +kernel
theorem dX5_count_66 : decode cX5_count 66 = .ok (.ireturn, 1) := by decide +kernel
theorem dX5_count_67 : decode cX5_count 67 = .ok (.iconst (-1), 1) := by decide +kernel
theorem dX5_count_68 : decode cX5_count 68 = .ok (.ireturn, 1) := by decide +kernel
theorem dX5_isDepth_0 : decode cX5_isDepth 0 = .ok (.iload_n 0, 1) := by decide +kernel
theorem dX5_isDepth_1 : decode cX5_isDepth 1 = .ok (.ifCond .lt 13, 3) := by decide +kernel
theorem dX5_isDepth_4 : decode cX5_isDepth 4 = .ok (.iload_n 0, 1) := by decide +kernel
theorem dX5_isDepth_5 : decode cX5_isDepth 5 = .ok (.bipush 60, 2) := by decide +kernel
