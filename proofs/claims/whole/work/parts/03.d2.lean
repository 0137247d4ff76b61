theorem dX2_init_54 : decode cX2_init 54 = .ok (.iload_n 3, 1) := by decide +kernel
theorem dX2_init_55 : decode cX2_init 55 = .ok (.aload_n 0, 1) := by decide +kernel
theorem dX2_init_56 : decode cX2_init 56 = .ok (.getfield 21, 3) := by decide +kernel
theorem dX2_init_59 : decode cX2_init 59 = .ok (.if_icmp .ge 31, 3) := by decide +kernel
theorem dX2_init_62 : decode cX2_init 62 = .ok (.aload_n 0, 1) := by decide +kernel
theorem dX2_init_63 : decode cX2_init 63 = .ok (.getfield 24, 3) := by decide +kernel
theorem dX2_init_66 : decode cX2_init 66 = .ok (.iload_n 3, 1) := by decide +kernel
theorem dX2_init_67 : decode cX2_init 67 = .ok (.iconst 1, 1) := by decide +kernel
theorem dX2_init_68 : decode cX2_init 68 = .ok (.iastore, 1) := by decide +kernel
theorem dX2_init_69 : decode cX2_init 69 = .ok (.aload_n 0, 1) := by decide +kernel
theorem dX2_init_70 : decode cX2_init 70 = .ok (.getfield 28, 3) := by decide +kernel
theorem dX2_init_73 : decode cX2_init 73 = .ok (.iload_n 3, 1) := by decide +kernel
theorem dX2_init_74 : decode cX2_init 74 = .ok (.bipush 60, 2) := by decide +kernel
theorem dX2_init_76 : decode cX2_init 76 = .ok (.iastore, 1) := by decide +kernel
theorem dX2_init_77 : decode cX2_init 77 = .ok (.aload_n 0, 1) := by decide +kernel
theorem dX2_init_78 : decode cX2_init 78 = .ok (.getfield 31, 3) := by decide +kernel
theorem dX2_init_81 : decode cX2_init 81 = .ok (.iload_n 3, 1) := by decide +kernel
theorem dX2_init_82 : decode cX2_init 82 = .ok (.iconst 5, 1) := by decide +kernel
theorem dX2_init_83 : decode cX2_init 83 = .ok (.iastore, 1) := by decide +kernel
theorem dX2_init_84 : decode cX2_init 84 = .ok (.iinc 3 1, 3) := by decide +kernel
theorem dX2_init_87 : decode cX2_init 87 = .ok (.goto (-33), 3) := by decide +kernel
theorem dX2_init_90 : decode cX2_init 90 = .ok (.aload_n 0, 1) := by decide +kernel
theorem dX2_init_91 : decode cX2_init 91 = .ok (.aload_n 0, 1) := by decide +kernel
theorem dX2_init_92 : decode cX2_init 92 = .ok (.getfield 15, 3) := by decide +kernel
theorem dX2_init_95 : decode cX2_init 95 = .ok (.newarray .int, 2) := by decide +kernel
theorem dX2_init_97 : decode cX2_init 97 = .ok (.putfield 34, 3) := by decide +kernel
theorem dX2_init_100 : decode cX2_init 100 = .ok (.aload_n 0, 1) := by decide +kernel
theorem dX2_init_101 : decode cX2_init 101 = .ok (.aload_n 0, 1) := by decide +kernel
theorem dX2_init_102 : decode cX2_init 102 = .ok (.getfield 15, 3) := by decide +kernel
theorem dX2_init_105 : decode cX2_init 105 = .ok (.newarray .boolean, 2) := by decide +kernel
theorem dX2_init_107 : decode cX2_init 107 = .ok (.putfield 37, 3) := by decide +kernel
theorem dX2_init_110 : decode cX2_init 110 = .ok (.return_, 1) := by decide +kernel
theorem dX2_columns_0 : decode cX2_columns 0 = .ok (.aload_n 0, 1) := by decide +kernel
theorem dX2_columns_1 : decode cX2_columns 1 = .ok (.getfield 15, 3) := by decide +kernel
theorem dX2_columns_4 : decode cX2_columns 4 = .ok (.ireturn, 1) := by decide +kernel
theorem dX2_surfaces_0 : decode cX2_surfaces 0 = .ok (.aload_n 0, 1) := by decide +kernel
theorem dX2_surfaces_1 : decode cX2_surfaces 1 = .ok (.getfield 21, 3) := by decide +kernel
theorem dX2_surfaces_4 : decode cX2_surfaces 4 = .ok (.ireturn, 1) := by decide +kernel
theorem dX2_places_0 : decode cX2_places 0 = .ok (.aload_n 0, 1) := by decide +kernel
theorem dX2_places_1 : decode cX2_places 1 = .ok (.getfield 15, 3) := by decide +kernel
theorem dX2_places_4 : decode cX2_places 4 = .ok (.aload_n 0, 1) := by decide +kernel
theorem dX2_places_5 : decode cX2_places 5 = .ok (.getfield 21, 3) := by decide +kernel
theorem dX2_places_8 : decode cX2_places 8 = .ok (.imul, 1) := by decide +kernel
theorem dX2_places_9 : decode cX2_places 9 = .ok (.ireturn, 1) := by decide +kernel
theorem dX2_hasSurface_0 : decode cX2_hasSurface 0 = .ok (.iload_n 1, 1) := by decide +kernel
theorem dX2_hasSurface_1 : decode cX2_hasSurface 1 = .ok (.ifCond .lt 15, 3) := by decide +kernel
theorem dX2_hasSurface_4 : decode cX2_hasSurface 4 = .ok (.iload_n 1, 1) := by decide +kernel
theorem dX2_hasSurface_5 : decode cX2_hasSurface 5 = .ok (.aload_n 0, 1) := by decide +kernel
theorem dX2_hasSurface_6 : decode cX2_hasSurface 6 = .ok (.getfield 21, 3) := by decide +kernel
theorem dX2_hasSurface_9 : decode cX2_hasSurface 9 = .ok (.if_icmp .ge 7, 3) := by decide +kernel
theorem dX2_hasSurface_12 : decode cX2_hasSurface 12 = .ok (.iconst 1, 1) := by decide +kernel
theorem dX2_hasSurface_13 : decode cX2_hasSurface 13 = .ok (.goto 4, 3) := by decide +kernel
theorem dX2_hasSurface_16 : decode cX2_hasSurface 16 = .ok (.iconst 0, 1) := by decide +kernel
theorem dX2_hasSurface_17 : decode cX2_hasSurface 17 = .ok (.ireturn, 1) := by decide +kernel
theorem dX2_hasColumn_0 : decode cX2_hasColumn 0 = .ok (.iload_n 1, 1) := by decide +kernel
theorem dX2_hasColumn_1 : decode cX2_hasColumn 1 = .ok (.ifCond .lt 15, 3) := by decide +kernel
theorem dX2_hasColumn_4 : decode cX2_hasColumn 4 = .ok (.iload_n 1, 1) := by decide +kernel
theorem dX2_hasColumn_5 : decode cX2_hasColumn 5 = .ok (.aload_n 0, 1) := by decide +kernel
theorem dX2_hasColumn_6 : decode cX2_hasColumn 6 = .ok (.getfield 15, 3) := by decide +kernel
theorem dX2_hasColumn_9 : decode cX2_hasColumn 9 = .ok (.if_icmp .ge 7, 3) := by decide +kernel
theorem dX2_hasColumn_12 : decode cX2_hasColumn 12 = .ok (.iconst 1, 1) := by decide +kernel
theorem dX2_hasColumn_13 : decode cX2_hasColumn 13 = .ok (.goto 4, 3) := by decide +kernel
theorem dX2_hasColumn_16 : decode cX2_hasColumn 16 = .ok (.iconst 0, 1) := by decide +kernel
theorem dX2_hasColumn_17 : decode cX2_hasColumn 17 = .ok (.ireturn, 1) := by decide +kernel
theorem dX2_hasNextColumn_0 : decode cX2_hasNextColumn 0 = .ok (.iload_n 1, 1) := by decide +kernel
theorem dX2_hasNextColumn_1 : decode cX2_hasNextColumn 1 = .ok (.ifCond .lt 17, 3) := by decide +kernel
theorem dX2_hasNextColumn_4 : decode cX2_hasNextColumn 4 = .ok (.iload_n 1, 1) := by decide +kernel
theorem dX2_hasNextColumn_5 : decode cX2_hasNextColumn 5 = .ok (.aload_n 0, 1) := by decide +kernel
theorem dX2_hasNextColumn_6 : decode cX2_hasNextColumn 6 = .ok (.getfield 15, 3) := by decide +kernel
theorem dX2_hasNextColumn_9 : decode cX2_hasNextColumn 9 = .ok (.iconst 1, 1) := by decide +kernel
theorem dX2_hasNextColumn_10 : decode cX2_hasNextColumn 10 = .ok (.isub, 1) := by decide +kernel
theorem dX2_hasNextColumn_11 : decode cX2_hasNextColumn 11 = .ok (.if_icmp .ge 7, 3) := by decide +kernel
theorem dX2_hasNextColumn_14 : decode cX2_hasNextColumn 14 = .ok (.iconst 1, 1) := by decide +kernel
theorem dX2_hasNextColumn_15 : decode cX2_hasNextColumn 15 = .ok (.goto 4, 3) := by decide +kernel
theorem dX2_hasNextColumn_18 : decode cX2_hasNextColumn 18 = .ok (.iconst 0, 1) := by decide +kernel
theorem dX2_hasNextColumn_19 : decode cX2_hasNextColumn 19 = .ok (.ireturn, 1) := by decide +kernel
theorem dX2_hasPlace_0 : decode cX2_hasPlace 0 = .ok (.aload_n 0, 1) := by decide +kernel
theorem dX2_hasPlace_1 : decode cX2_hasPlace 1 = .ok (.iload_n 1, 1) := by decide +kernel
theorem dX2_hasPlace_2 : decode cX2_hasPlace 2 = .ok (.invokevirtual 41, 3) := by decide +kernel
theorem dX2_hasPlace_5 : decode cX2_hasPlace 5 = .ok (.ifCond .eq 15, 3) := by decide +kernel
theorem dX2_hasPlace_8 : decode cX2_hasPlace 8 = .ok (.aload_n 0, 1) := by decide +kernel
theorem dX2_hasPlace_9 : decode cX2_hasPlace 9 = .ok (.iload_n 2, 1) := by decide +kernel
theorem dX2_hasPlace_10 : decode cX2_hasPlace 10 = .ok (.invokevirtual 45, 3) := by decide +kernel
theorem dX2_hasPlace_13 : decode cX2_hasPlace 13 = .ok (.ifCond .eq 7, 3) := by decide +kernel
theorem dX2_hasPlace_16 : decode cX2_hasPlace 16 = .ok (.iconst 1, 1) := by decide +kernel
theorem dX2_hasPlace_17 : decode cX2_hasPlace 17 = .ok (.goto 4, 3) := by decide +kernel
theorem dX2_hasPlace_20 : decode cX2_hasPlace 20 = .ok (.iconst 0, 1) := by decide +kernel
theorem dX2_hasPlace_21 : decode cX2_hasPlace 21 = .ok (.ireturn, 1) := by decide +kernel
theorem dX2_placeOf_0 : decode cX2_placeOf 0 = .ok (.iconst 1, 1) := by decide +kernel
theorem dX2_placeOf_1 : decode cX2_placeOf 1 = .ok (.iload_n 1, 1) := by decide +kernel
theorem dX2_placeOf_2 : decode cX2_placeOf 2 = .ok (.aload_n 0, 1) := by decide +kernel
theorem dX2_placeOf_3 : decode cX2_placeOf 3 = .ok (.getfield 15, 3) := by decide +kernel
theorem dX2_placeOf_6 : decode cX2_placeOf 6 = .ok (.imul, 1) := by decide +kernel
theorem dX2_placeOf_7 : decode cX2_placeOf 7 = .ok (.iadd, 1) := by decide +kernel
theorem dX2_placeOf_8 : decode cX2_placeOf 8 = .ok (.iload_n 2, 1) := by decide +kernel
theorem dX2_placeOf_9 : decode cX2_placeOf 9 = .ok (.iadd, 1) := by decide +kernel
theorem dX2_placeOf_10 : decode cX2_placeOf 10 = .ok (.ireturn, 1) := by decide +kernel
theorem dX2_setThick_0 : decode cX2_setThick 0 = .ok (.aload_n 0, 1) := by decide +kernel
theorem dX2_setThick_1 : decode cX2_setThick 1 = .ok (.iload_n 1, 1) := by decide +kernel
theorem dX2_setThick_2 : decode cX2_setThick 2 = .ok (.invokevirtual 41, 3) := by decide +kernel
theorem dX2_setThick_5 : decode cX2_setThick 5 = .ok (.ifCond .eq 17, 3) := by decide +kernel
theorem dX2_setThick_8 : decode cX2_setThick 8 = .ok (.aload_n 0, 1) := by decide +kernel
theorem dX2_setThick_9 : decode cX2_setThick 9 = .ok (.getfield 24, 3) := by decide +kernel
theorem dX2_setThick_12 : decode cX2_setThick 12 = .ok (.iload_n 1, 1) := by decide +kernel
theorem dX2_setThick_13 : decode cX2_setThick 13 = .ok (.iload_n 2, 1) := by decide +kernel
theorem dX2_setThick_14 : decode cX2_setThick 14 = .ok (.iastore, 1) := by decide +kernel
theorem dX2_setThick_15 : decode cX2_setThick 15 = .ok (.aload_n 0, 1) := by decide +kernel
theorem dX2_setThick_16 : decode cX2_setThick 16 = .ok (.getfield 28, 3) := by decide +kernel
theorem dX2_setThick_19 : decode cX2_setThick 19 = .ok (.iload_n 1, 1) := by decide +kernel
theorem dX2_setThick_20 : decode cX2_setThick 20 = .ok (.iload_n 3, 1) := by decide +kernel
theorem dX2_setThick_21 : decode cX2_setThick 21 = .ok (.iastore, 1) := by decide +kernel
theorem dX2_setThick_22 : decode cX2_setThick 22 = .ok (.return_, 1) := by decide +kernel
theorem dX2_setSteep_0 : decode cX2_setSteep 0 = .ok (.aload_n 0, 1) := by decide +kernel
theorem dX2_setSteep_1 : decode cX2_setSteep 1 = .ok (.iload_n 1, 1) := by decide +kernel
theorem dX2_setSteep_2 : decode cX2_setSteep 2 = .ok (.invokevirtual 41, 3) := by decide +kernel
theorem dX2_setSteep_5 : decode cX2_setSteep 5 = .ok (.ifCond .eq 10, 3) := by decide +kernel
theorem dX2_setSteep_8 : decode cX2_setSteep 8 = .ok (.aload_n 0, 1) := by decide +kernel
theorem dX2_setSteep_9 : decode cX2_setSteep 9 = .ok (.getfield 31, 3) := by decide +kernel
theorem dX2_setSteep_12 : decode cX2_setSteep 12 = .ok (.iload_n 1, 1) := by decide +kernel
theorem dX2_setSteep_13 : decode cX2_setSteep 13 = .ok (.iload_n 2, 1) := by decide +kernel
theorem dX2_setSteep_14 : decode cX2_setSteep 14 = .ok (.iastore, 1) := by decide +kernel
theorem dX2_setSteep_15 : decode cX2_setSteep 15 = .ok (.return_, 1) := by decide +kernel
theorem dX2_breakAt_0 : decode cX2_breakAt 0 = .ok (.aload_n 0, 1) := by decide +kernel
theorem dX2_breakAt_1 : decode cX2_breakAt 1 = .ok (.iload_n 1, 1) := by decide +kernel
theorem dX2_breakAt_2 : decode cX2_breakAt 2 = .ok (.invokevirtual 50, 3) := by decide +kernel
theorem dX2_breakAt_5 : decode cX2_breakAt 5 = .ok (.ifCond .eq 17, 3) := by decide +kernel
theorem dX2_breakAt_8 : decode cX2_breakAt 8 = .ok (.aload_n 0, 1) := by decide +kernel
theorem dX2_breakAt_9 : decode cX2_breakAt 9 = .ok (.getfield 34, 3) := by decide +kernel
theorem dX2_breakAt_12 : decode cX2_breakAt 12 = .ok (.iload_n 1, 1) := by decide +kernel
theorem dX2_breakAt_13 : decode cX2_breakAt 13 = .ok (.iload_n 2, 1) := by decide +kernel
theorem dX2_breakAt_14 : decode cX2_breakAt 14 = .ok (.iastore, 1) := by decide +kernel
theorem dX2_breakAt_15 : decode cX2_breakAt 15 = .ok (.aload_n 0, 1) := by decide +kernel
theorem dX2_breakAt_16 : decode cX2_breakAt 16 = .ok (.getfield 37, 3) := by decide +kernel
theorem dX2_breakAt_19 : decode cX2_breakAt 19 = .ok (.iload_n 1, 1) := by decide +kernel
theorem dX2_breakAt_20 : decode cX2_breakAt 20 = .ok (.iconst 1, 1) := by decide +kernel
theorem dX2_breakAt_21 : decode cX2_breakAt 21 = .ok (.bastore, 1) := by decide +kernel
theorem dX2_breakAt_22 : decode cX2_breakAt 22 = .ok (.return_, 1) := by decide +kernel
theorem dX2_mendAt_0 : decode cX2_mendAt 0 = .ok (.aload_n 0, 1) := by decide +kernel
theorem dX2_mendAt_1 : decode cX2_mendAt 1 = .ok (.iload_n 1, 1) := by decide +kernel
theorem dX2_mendAt_2 : decode cX2_mendAt 2 = .ok (.invokevirtual 50, 3) := by decide +kernel
theorem dX2_mendAt_5 : decode cX2_mendAt 5 = .ok (.ifCond .eq 17, 3) := by decide +kernel
theorem dX2_mendAt_8 : decode cX2_mendAt 8 = .ok (.aload_n 0, 1) := by decide +kernel
theorem dX2_mendAt_9 : decode cX2_mendAt 9 = .ok (.getfield 34, 3) := by decide +kernel
theorem dX2_mendAt_12 : decode cX2_mendAt 12 = .ok (.iload_n 1, 1) := by decide +kernel
theorem dX2_mendAt_13 : decode cX2_mendAt 13 = .ok (.iconst 0, 1) := by decide +kernel
theorem dX2_mendAt_14 : decode cX2_mendAt 14 = .ok (.iastore, 1) := by decide +kernel
theorem dX2_mendAt_15 : decode cX2_mendAt 15 = .ok (.aload_n 0, 1) := by decide +kernel
theorem dX2_mendAt_16 : decode cX2_mendAt 16 = .ok (.getfield 37, 3) := by decide +kernel
theorem dX2_mendAt_19 : decode cX2_mendAt 19 = .ok (.iload_n 1, 1) := by decide +kernel
theorem dX2_mendAt_20 : decode cX2_mendAt 20 = .ok (.iconst 0, 1) := by decide +kernel
theorem dX2_mendAt_21 : decode cX2_mendAt 21 = .ok (.bastore, 1) := by decide +kernel
theorem dX2_mendAt_22 : decode cX2_mendAt 22 = .ok (.return_, 1) := by decide +kernel
theorem dX2_isBroken_0 : decode cX2_isBroken 0 = .ok (.aload_n 0, 1) := by decide +kernel
theorem dX2_isBroken_1 : decode cX2_isBroken 1 = .ok (.iload_n 1, 1) := by decide +kernel
theorem dX2_isBroken_2 : decode cX2_isBroken 2 = .ok (.invokevirtual 50, 3) := by decide +kernel
theorem dX2_isBroken_5 : decode cX2_isBroken 5 = .ok (.ifCond .eq 16, 3) := by decide +kernel
theorem dX2_isBroken_8 : decode cX2_isBroken 8 = .ok (.aload_n 0, 1) := by decide +kernel
theorem dX2_isBroken_9 : decode cX2_isBroken 9 = .ok (.getfield 37, 3) := by decide +kernel
theorem dX2_isBroken_12 : decode cX2_isBroken 12 = .ok (.iload_n 1, 1) := by decide +kernel
theorem dX2_isBroken_13 : decode cX2_isBroken 13 = .ok (.baload, 1) := by decide +kernel
theorem dX2_isBroken_14 : decode cX2_isBroken 14 = .ok (.ifCond .eq 7, 3) := by decide +kernel
theorem dX2_isBroken_17 : decode cX2_isBroken 17 = .ok (.iconst 1, 1) := by decide +kernel
theorem dX2_isBroken_18 : decode cX2_isBroken 18 = .ok (.goto 4, 3) := by decide +kernel
theorem dX2_isBroken_21 : decode cX2_isBroken 21 = .ok (.iconst 0, 1) := by decide +kernel
theorem dX2_isBroken_22 : decode cX2_isBroken 22 = .ok (.ireturn, 1) := by decide +kernel
theorem dX2_faults_0 : decode cX2_faults 0 = .ok (.iconst 0, 1) := by decide +kernel
theorem dX2_faults_1 : decode cX2_faults 1 = .ok (.istore_n 1, 1) := by decide +kernel
theorem dX2_faults_2 : decode cX2_faults 2 = .ok (.iconst 0, 1) := by decide +kernel
theorem dX2_faults_3 : decode cX2_faults 3 = .ok (.istore_n 2, 1) := by decide +kernel
theorem dX2_faults_4 : decode cX2_faults 4 = .ok (.iload_n 2, 1) := by decide +kernel
theorem dX2_faults_5 : decode cX2_faults 5 = .ok (.aload_n 0, 1) := by decide +kernel
theorem dX2_faults_6 : decode cX2_faults 6 = .ok (.getfield 15, 3) := by decide +kernel
theorem dX2_faults_9 : decode cX2_faults 9 = .ok (.if_icmp .ge 20, 3) := by decide +kernel
theorem dX2_faults_12 : decode cX2_faults 12 = .ok (.aload_n 0, 1) := by decide +kernel
theorem dX2_faults_13 : decode cX2_faults 13 = .ok (.iload_n 2, 1) := by decide +kernel
theorem dX2_faults_14 : decode cX2_faults 14 = .ok (.invokevirtual 53, 3) := by decide +kernel
theorem dX2_faults_17 : decode cX2_faults 17 = .ok (.ifCond .eq 6, 3) := by decide +kernel
theorem dX2_faults_20 : decode cX2_faults 20 = .ok (.iinc 1 1, 3) := by decide +kernel
theorem dX2_faults_23 : decode cX2_faults 23 = .ok (.iinc 2 1, 3) := by decide +kernel
theorem dX2_faults_26 : decode cX2_faults 26 = .ok (.goto (-22), 3) := by decide +kernel
theorem dX2_faults_29 : decode cX2_faults 29 = .ok (.iload_n 1, 1) := by decide +kernel
theorem dX2_faults_30 : decode cX2_faults 30 = .ok (.ireturn, 1) := by decide +kernel
theorem dX2_bind_0 : decode cX2_bind 0 = .ok (.iconst 0, 1) := by decide +kernel
theorem dX2_bind_1 : decode cX2_bind 1 = .ok (.istore_n 2, 1) := by decide +kernel
theorem dX2_bind_2 : decode cX2_bind 2 = .ok (.iload_n 2, 1) := by decide +kernel
theorem dX2_bind_3 : decode cX2_bind 3 = .ok (.aload_n 0, 1) := by decide +kernel
theorem dX2_bind_4 : decode cX2_bind 4 = .ok (.getfield 21, 3) := by decide +kernel
theorem dX2_bind_7 : decode cX2_bind 7 = .ok (.if_icmp .ge 47, 3) := by decide +kernel
theorem dX2_bind_10 : decode cX2_bind 10 = .ok (.iconst 0, 1) := by decide +kernel
theorem dX2_bind_11 : decode cX2_bind 11 = .ok (.istore_n 3, 1) := by decide +kernel
theorem dX2_bind_12 : decode cX2_bind 12 = .ok (.iload_n 3, 1) := by decide +kernel
theorem dX2_bind_13 : decode cX2_bind 13 = .ok (.aload_n 0, 1) := by decide +kernel
theorem dX2_bind_14 : decode cX2_bind 14 = .ok (.getfield 15, 3) := by decide +kernel
theorem dX2_bind_17 : decode cX2_bind 17 = .ok (.if_icmp .ge 31, 3) := by decide +kernel
theorem dX2_bind_20 : decode cX2_bind 20 = .ok (.aload_n 0, 1) := by decide +kernel
theorem dX2_bind_21 : decode cX2_bind 21 = .ok (.aload_n 1, 1) := by decide +kernel
theorem dX2_bind_22 : decode cX2_bind 22 = .ok (.iload_n 2, 1) := by decide +kernel
theorem dX2_bind_23 : decode cX2_bind 23 = .ok (.iload_n 3, 1) := by decide +kernel
theorem dX2_bind_24 : decode cX2_bind 24 = .ok (.invokevirtual 56, 3) := by decide +kernel
theorem dX2_bind_27 : decode cX2_bind 27 = .ok (.ifCond .eq 13, 3) := by decide +kernel
theorem dX2_bind_30 : decode cX2_bind 30 = .ok (.aload_n 0, 1) := by decide +kernel
theorem dX2_bind_31 : decode cX2_bind 31 = .ok (.aload_n 1, 1) := by decide +kernel
theorem dX2_bind_32 : decode cX2_bind 32 = .ok (.iload_n 2, 1) := by decide +kernel
theorem dX2_bind_33 : decode cX2_bind 33 = .ok (.iload_n 3, 1) := by decide +kernel
theorem dX2_bind_34 : decode cX2_bind 34 = .ok (.invokevirtual 60, 3) := by decide +kernel
theorem dX2_bind_37 : decode cX2_bind 37 = .ok (.ifCond .ne 5, 3) := by decide +kernel
theorem dX2_bind_40 : decode cX2_bind 40 = .ok (.iconst 0, 1) := by decide +kernel
theorem dX2_bind_41 : decode cX2_bind 41 = .ok (.ireturn, 1) := by decide +kernel
theorem dX2_bind_42 : decode cX2_bind 42 = .ok (.iinc 3 1, 3) := by decide +kernel
theorem dX2_bind_45 : decode cX2_bind 45 = .ok (.goto (-33), 3) := by decide +kernel
theorem dX2_bind_48 : decode cX2_bind 48 = .ok (.iinc 2 1, 3) := by decide +kernel
theorem dX2_bind_51 : decode cX2_bind 51 = .ok (.goto (-49), 3) := by decide +kernel
theorem dX2_bind_54 : decode cX2_bind 54 = .ok (.iconst 1, 1) := by decide +kernel
theorem dX2_bind_55 : decode cX2_bind 55 = .ok (.ireturn, 1) := by decide +kernel
theorem dX2_bindThick_0 : decode cX2_bindThick 0 = .ok (.aload_n 0, 1) := by decide +kernel
theorem dX2_bindThick_1 : decode cX2_bindThick 1 = .ok (.iload_n 2, 1) := by decide +kernel
theorem dX2_bindThick_2 : decode cX2_bindThick 2 = .ok (.iload_n 3, 1) := by decide +kernel
theorem dX2_bindThick_3 : decode cX2_bindThick 3 = .ok (.invokevirtual 63, 3) := by decide +kernel
theorem dX2_bindThick_6 : decode cX2_bindThick 6 = .ok (.ifCond .eq 13, 3) := by decide +kernel
theorem dX2_bindThick_9 : decode cX2_bindThick 9 = .ok (.aload_n 0, 1) := by decide +kernel
theorem dX2_bindThick_10 : decode cX2_bindThick 10 = .ok (.iload_n 2, 1) := by decide +kernel
theorem dX2_bindThick_11 : decode cX2_bindThick 11 = .ok (.iconst 1, 1) := by decide +kernel
theorem dX2_bindThick_12 : decode cX2_bindThick 12 = .ok (.iadd, 1) := by decide +kernel
theorem dX2_bindThick_13 : decode cX2_bindThick 13 = .ok (.invokevirtual 41, 3) := by decide +kernel
theorem dX2_bindThick_16 : decode cX2_bindThick 16 = .ok (.ifCond .ne 5, 3) := by decide +kernel
theorem dX2_bindThick_19 : decode cX2_bindThick 19 = .ok (.iconst 1, 1) := by decide +kernel
theorem dX2_bindThick_20 : decode cX2_bindThick 20 = .ok (.ireturn, 1) := by decide +kernel
theorem dX2_bindThick_21 : decode cX2_bindThick 21 = .ok (.aload_n 0, 1) := by decide +kernel
theorem dX2_bindThick_22 : decode cX2_bindThick 22 = .ok (.iload_n 2, 1) := by decide +kernel
theorem dX2_bindThick_23 : decode cX2_bindThick 23 = .ok (.iload_n 3, 1) := by decide +kernel
theorem dX2_bindThick_24 : decode cX2_bindThick 24 = .ok (.invokevirtual 67, 3) := by decide +kernel
theorem dX2_bindThick_27 : decode cX2_bindThick 27 = .ok (.istore 4, 2) := by decide +kernel
theorem dX2_bindThick_29 : decode cX2_bindThick 29 = .ok (.aload_n 0, 1) := by decide +kernel
theorem dX2_bindThick_30 : decode cX2_bindThick 30 = .ok (.iload_n 2, 1) := by decide +kernel
theorem dX2_bindThick_31 : decode cX2_bindThick 31 = .ok (.iconst 1, 1) := by decide +kernel
theorem dX2_bindThick_32 : decode cX2_bindThick 32 = .ok (.iadd, 1) := by decide +kernel
theorem dX2_bindThick_33 : decode cX2_bindThick 33 = .ok (.iload_n 3, 1) := by decide +kernel
theorem dX2_bindThick_34 : decode cX2_bindThick 34 = .ok (.invokevirtual 67, 3) := by decide +kernel
theorem dX2_bindThick_37 : decode cX2_bindThick 37 = .ok (.istore 5, 2) := by decide +kernel
theorem dX2_bindThick_39 : decode cX2_bindThick 39 = .ok (.aload_n 1, 1) := by decide +kernel
theorem dX2_bindThick_40 : decode cX2_bindThick 40 = .ok (.iload 4, 2) := by decide +kernel
theorem dX2_bindThick_42 : decode cX2_bindThick 42 = .ok (.iload 5, 2) := by decide +kernel
theorem dX2_bindThick_44 : decode cX2_bindThick 44 = .ok (.aload_n 0, 1) := by decide +kernel
theorem dX2_bindThick_45 : decode cX2_bindThick 45 = .ok (.getfield 24, 3) := by decide +kernel
theorem dX2_bindThick_48 : decode cX2_bindThick 48 = .ok (.iload_n 2, 1) := by decide +kernel
theorem dX2_bindThick_49 : decode cX2_bindThick 49 = .ok (.iaload, 1) := by decide +kernel
theorem dX2_bindThick_50 : decode cX2_bindThick 50 = .ok (.aload_n 0, 1) := by decide +kernel
theorem dX2_bindThick_51 : decode cX2_bindThick 51 = .ok (.getfield 28, 3) := by decide +kernel
theorem dX2_bindThick_54 : decode cX2_bindThick 54 = .ok (.iload_n 2, 1) := by decide +kernel
theorem dX2_bindThick_55 : decode cX2_bindThick 55 = .ok (.iaload, 1) := by decide +kernel
theorem dX2_bindThick_56 : decode cX2_bindThick 56 = .ok (.invokevirtual 70, 3) := by decide +kernel
theorem dX2_bindThick_59 : decode cX2_bindThick 59 = .ok (.ireturn, 1) := by decide +kernel
theorem dX2_bindStep_0 : decode cX2_bindStep 0 = .ok (.aload_n 0, 1) := by decide +kernel
theorem dX2_bindStep_1 : decode cX2_bindStep 1 = .ok (.iload_n 2, 1) := by decide +kernel
theorem dX2_bindStep_2 : decode cX2_bindStep 2 = .ok (.invokevirtual 41, 3) := by decide +kernel
theorem dX2_bindStep_5 : decode cX2_bindStep 5 = .ok (.ifCond .eq 11, 3) := by decide +kernel
theorem dX2_bindStep_8 : decode cX2_bindStep 8 = .ok (.aload_n 0, 1) := by decide +kernel
theorem dX2_bindStep_9 : decode cX2_bindStep 9 = .ok (.iload_n 3, 1) := by decide +kernel
theorem dX2_bindStep_10 : decode cX2_bindStep 10 = .ok (.invokevirtual 50, 3) := by decide +kernel
theorem dX2_bindStep_13 : decode cX2_bindStep 13 = .ok (.ifCond .ne 5, 3) := by decide +kernel
theorem dX2_bindStep_16 : decode cX2_bindStep 16 = .ok (.iconst 1, 1) := by decide +kernel
theorem dX2_bindStep_17 : decode cX2_bindStep 17 = .ok (.ireturn, 1) := by decide +kernel
theorem dX2_bindStep_18 : decode cX2_bindStep 18 = .ok (.aload_n 0, 1) := by decide +kernel
theorem dX2_bindStep_19 : decode cX2_bindStep 19 = .ok (.iload_n 2, 1) := by decide +kernel
theorem dX2_bindStep_20 : decode cX2_bindStep 20 = .ok (.iload_n 3, 1) := by decide +kernel
theorem dX2_bindStep_21 : decode cX2_bindStep 21 = .ok (.invokevirtual 67, 3) := by decide +kernel
theorem dX2_bindStep_24 : decode cX2_bindStep 24 = .ok (.istore 4, 2) := by decide +kernel
theorem dX2_bindStep_26 : decode cX2_bindStep 26 = .ok (.aload_n 0, 1) := by decide +kernel
theorem dX2_bindStep_27 : decode cX2_bindStep 27 = .ok (.iload_n 2, 1) := by decide +kernel
theorem dX2_bindStep_28 : decode cX2_bindStep 28 = .ok (.iload_n 3, 1) := by decide +kernel
theorem dX2_bindStep_29 : decode cX2_bindStep 29 = .ok (.iconst 1, 1) := by decide +kernel
theorem dX2_bindStep_30 : decode cX2_bindStep 30 = .ok (.iadd, 1) := by decide +kernel
theorem dX2_bindStep_31 : decode cX2_bindStep 31 = .ok (.invokevirtual 67, 3) := by decide +kernel
theorem dX2_bindStep_34 : decode cX2_bindStep 34 = .ok (.istore 5, 2) := by decide +kernel
theorem dX2_bindStep_36 : decode cX2_bindStep 36 = .ok (.aload_n 0, 1) := by decide +kernel
theorem dX2_bindStep_37 : decode cX2_bindStep 37 = .ok (.getfield 34, 3) := by decide +kernel
theorem dX2_bindStep_40 : decode cX2_bindStep 40 = .ok (.iload_n 3, 1) := by decide +kernel
theorem dX2_bindStep_41 : decode cX2_bindStep 41 = .ok (.iaload, 1) := by decide +kernel
theorem dX2_bindStep_42 : decode cX2_bindStep 42 = .ok (.istore 6, 2) := by decide +kernel
theorem dX2_bindStep_44 : decode cX2_bindStep 44 = .ok (.aload_n 0, 1) := by decide +kernel
theorem dX2_bindStep_45 : decode cX2_bindStep 45 = .ok (.getfield 31, 3) := by decide +kernel
theorem dX2_bindStep_48 : decode cX2_bindStep 48 = .ok (.iload_n 2, 1) := by decide +kernel
theorem dX2_bindStep_49 : decode cX2_bindStep 49 = .ok (.iaload, 1) := by decide +kernel
theorem dX2_bindStep_50 : decode cX2_bindStep 50 = .ok (.istore 7, 2) := by decide +kernel
theorem dX2_bindStep_52 : decode cX2_bindStep 52 = .ok (.aload_n 1, 1) := by decide +kernel
theorem dX2_bindStep_53 : decode cX2_bindStep 53 = .ok (.iload 4, 2) := by decide +kernel
theorem dX2_bindStep_55 : decode cX2_bindStep 55 = .ok (.iload 5, 2) := by decide +kernel
theorem dX2_bindStep_57 : decode cX2_bindStep 57 = .ok (.iload 6, 2) := by decide +kernel
theorem dX2_bindStep_59 : decode cX2_bindStep 59 = .ok (.iload 7, 2) := by decide +kernel
theorem dX2_bindStep_61 : decode cX2_bindStep 61 = .ok (.isub, 1) := by decide +kernel
theorem dX2_bindStep_62 : decode cX2_bindStep 62 = .ok (.iload 6, 2) := by decide +kernel
theorem dX2_bindStep_64 : decode cX2_bindStep 64 = .ok (.iload 7, 2) := by decide +kernel
theorem dX2_bindStep_66 : decode cX2_bindStep 66 = .ok (.iadd, 1) := by decide +kernel
theorem dX2_bindStep_67 : decode cX2_bindStep 67 = .ok (.invokevirtual 70, 3) := by decide +kernel
theorem dX2_bindStep_70 : decode cX2_bindStep 70 = .ok (.ireturn, 1) := by decide +kernel
theorem dX3_init_0 : decode cX3_init 0 = .ok (.aload_n 0, 1) := by decide +kernel
theorem dX3_init_1 : decode cX3_init 1 = .ok (.invokespecial 3, 3) := by decide +kernel
theorem dX3_init_4 : decode cX3_init 4 = .ok (.aload_n 0, 1) := by decide +kernel
theorem dX3_init_5 : decode cX3_init 5 = .ok (.iload_n 1, 1) := by decide +kernel
theorem dX3_init_6 : decode cX3_init 6 = .ok (.putfield 9, 3) := by decide +kernel
theorem dX3_init_9 : decode cX3_init 9 = .ok (.aload_n 0, 1) := by decide +kernel
theorem dX3_init_10 : decode cX3_init 10 = .ok (.iload_n 2, 1) := by decide +kernel
theorem dX3_init_11 : decode cX3_init 11 = .ok (.putfield 15, 3) := by decide +kernel
theorem dX3_init_14 : decode cX3_init 14 = .ok (.aload_n 0, 1) := by decide +kernel
theorem dX3_init_15 : decode cX3_init 15 = .ok (.iload_n 3, 1) := by decide +kernel
theorem dX3_init_16 : decode cX3_init 16 = .ok (.putfield 18, 3) := by decide +kernel
theorem dX3_init_19 : decode cX3_init 19 = .ok (.aload_n 0, 1) := by decide +kernel
theorem dX3_init_20 : decode cX3_init 20 = .ok (.iload 4, 2) := by decide +kernel
theorem dX3_init_22 : decode cX3_init 22 = .ok (.putfield 21, 3) := by decide +kernel
theorem dX3_init_25 : decode cX3_init 25 = .ok (.aload_n 0, 1) := by decide +kernel
theorem dX3_init_26 : decode cX3_init 26 = .ok (.iload 5, 2) := by decide +kernel
theorem dX3_init_28 : decode cX3_init 28 = .ok (.putfield 24, 3) := by decide +kernel
theorem dX3_init_31 : decode cX3_init 31 = .ok (.return_, 1) := by decide +kernel
theorem dX3_surface_0 : decode cX3_surface 0 = .ok (.aload_n 0, 1) := by decide +kernel
theorem dX3_surface_1 : decode cX3_surface 1 = .ok (.getfield 9, 3) := by decide +kernel
theorem dX3_surface_4 : decode cX3_surface 4 = .ok (.ireturn, 1) := by decide +kernel
theorem dX3_column_0 : decode cX3_column 0 = .ok (.aload_n 0, 1) := by decide +kernel
theorem dX3_column_1 : decode cX3_column 1 = .ok (.getfield 15, 3) := by decide +kernel
theorem dX3_column_4 : decode cX3_column 4 = .ok (.ireturn, 1) := by decide +kernel
theorem dX3_kind_0 : decode cX3_kind 0 = .ok (.aload_n 0, 1) := by decide +kernel
theorem dX3_kind_1 : decode cX3_kind 1 = .ok (.getfield 18, 3) := by decide +kernel
theorem dX3_kind_4 : decode cX3_kind 4 = .ok (.ireturn, 1) := by decide +kernel
theorem dX3_z_0 : decode cX3_z 0 = .ok (.aload_n 0, 1) := by decide +kernel
theorem dX3_z_1 : decode cX3_z 1 = .ok (.getfield 21, 3) := by decide +kernel
theorem dX3_z_4 : decode cX3_z 4 = .ok (.ireturn, 1) := by decide +kernel
theorem dX3_miss_0 : decode cX3_miss 0 = .ok (.aload_n 0, 1) := by decide +kernel
theorem dX3_miss_1 : decode cX3_miss 1 = .ok (.getfield 24, 3) := by decide +kernel
theorem dX3_miss_4 : decode cX3_miss 4 = .ok (.ireturn, 1) := by decide +kernel
theorem dX3_bind_0 : decode cX3_bind 0 = .ok (.aload_n 2, 1) := by decide +kernel
theorem dX3_bind_1 : decode cX3_bind 1 = .ok (.aload_n 0, 1) := by decide +kernel
theorem dX3_bind_2 : decode cX3_bind 2 = .ok (.getfield 9, 3) := by decide +kernel
theorem dX3_bind_5 : decode cX3_bind 5 = .ok (.aload_n 0, 1) := by decide +kernel
theorem dX3_bind_6 : decode cX3_bind 6 = .ok (.getfield 15, 3) := by decide +kernel
theorem dX3_bind_9 : decode cX3_bind 9 = .ok (.invokevirtual 27, 3) := by decide +kernel
theorem dX3_bind_12 : decode cX3_bind 12 = .ok (.istore_n 3, 1) := by decide +kernel
theorem dX3_bind_13 : decode cX3_bind 13 = .ok (.aload_n 0, 1) := by decide +kernel
theorem dX3_bind_14 : decode cX3_bind 14 = .ok (.getfield 18, 3) := by decide +kernel
theorem dX3_bind_17 : decode cX3_bind 17 = .ok (.tableswitch 77 0 2 #[27, 52, 65], 27) := by decide +kernel
theorem dX3_bind_44 : decode cX3_bind 44 = .ok (.aload_n 1, 1) := by decide +kernel
theorem dX3_bind_45 : decode cX3_bind 45 = .ok (.iconst 0, 1) := by decide +kernel
theorem dX3_bind_46 : decode cX3_bind 46 = .ok (.iload_n 3, 1) := by decide +kernel
theorem dX3_bind_47 : decode cX3_bind 47 = .ok (.aload_n 0, 1) := by decide +kernel
theorem dX3_bind_48 : decode cX3_bind 48 = .ok (.getfield 21, 3) := by decide +kernel
theorem dX3_bind_51 : decode cX3_bind 51 = .ok (.aload_n 0, 1) := by decide +kernel
theorem dX3_bind_52 : decode cX3_bind 52 = .ok (.getfield 24, 3) := by decide +kernel
theorem dX3_bind_55 : decode cX3_bind 55 = .ok (.isub, 1) := by decide +kernel
theorem dX3_bind_56 : decode cX3_bind 56 = .ok (.aload_n 0, 1) := by decide +kernel
theorem dX3_bind_57 : decode cX3_bind 57 = .ok (.getfield 21, 3) := by decide +kernel
theorem dX3_bind_60 : decode cX3_bind 60 = .ok (.aload_n 0, 1) := by decide +kernel
theorem dX3_bind_61 : decode cX3_bind 61 = .ok (.getfield 24, 3) := by decide +kernel
theorem dX3_bind_64 : decode cX3_bind 64 = .ok (.iadd, 1) := by decide +kernel
theorem dX3_bind_65 : decode cX3_bind 65 = .ok (.invokevirtual 35, 3) := by decide +kernel
theorem dX3_bind_68 : decode cX3_bind 68 = .ok (.ireturn, 1) := by decide +kernel
theorem dX3_bind_69 : decode cX3_bind 69 = .ok (.aload_n 1, 1) := by decide +kernel
theorem dX3_bind_70 : decode cX3_bind 70 = .ok (.iconst 0, 1) := by decide +kernel
theorem dX3_bind_71 : decode cX3_bind 71 = .ok (.iload_n 3, 1) := by decide +kernel
theorem dX3_bind_72 : decode cX3_bind 72 = .ok (.aload_n 0, 1) := by decide +kernel
theorem dX3_bind_73 : decode cX3_bind 73 = .ok (.getfield 21, 3) := by decide +kernel
theorem dX3_bind_76 : decode cX3_bind 76 = .ok (.bipush 60, 2) := by decide +kernel
theorem dX3_bind_78 : decode cX3_bind 78 = .ok (.invokevirtual 35, 3) := by decide +kernel
theorem dX3_bind_81 : decode cX3_bind 81 = .ok (.ireturn, 1) := by decide +kernel
theorem dX3_bind_82 : decode cX3_bind 82 = .ok (.aload_n 1, 1) := by decide +kernel
theorem dX3_bind_83 : decode cX3_bind 83 = .ok (.iconst 0, 1) := by decide +kernel
theorem dX3_bind_84 : decode cX3_bind 84 = .ok (.iload_n 3, 1) := by decide +kernel
theorem dX3_bind_85 : decode cX3_bind 85 = .ok (.iconst 0, 1) := by decide +kernel
theorem dX3_bind_86 : decode cX3_bind 86 = .ok (.aload_n 0, 1) := by decide +kernel
theorem dX3_bind_87 : decode cX3_bind 87 = .ok (.getfield 21, 3) := by decide +kernel
theorem dX3_bind_90 : decode cX3_bind 90 = .ok (.invokevirtual 35, 3) := by decide +kernel
theorem dX3_bind_93 : decode cX3_bind 93 = .ok (.ireturn, 1) := by decide +kernel
theorem dX3_bind_94 : decode cX3_bind 94 = .ok (.aload_n 1, 1) := by decide +kernel
theorem dX3_bind_95 : decode cX3_bind 95 = .ok (.iload_n 3, 1) := by decide +kernel
theorem dX3_bind_96 : decode cX3_bind 96 = .ok (.aload_n 2, 1) := by decide +kernel
theorem dX3_bind_97 : decode cX3_bind 97 = .ok (.aload_n 0, 1) := by decide +kernel
theorem dX3_bind_98 : decode cX3_bind 98 = .ok (.getfield 9, 3) := by decide +kernel
theorem dX3_bind_101 : decode cX3_bind 101 = .ok (.aload_n 0, 1) := by decide +kernel
theorem dX3_bind_102 : decode cX3_bind 102 = .ok (.getfield 15, 3) := by decide +kernel
theorem dX3_bind_105 : decode cX3_bind 105 = .ok (.iconst 1, 1) := by decide +kernel
theorem dX3_bind_106 : decode cX3_bind 106 = .ok (.iadd, 1) := by decide +kernel
theorem dX3_bind_107 : decode cX3_bind 107 = .ok (.invokevirtual 27, 3) := by decide +kernel
theorem dX3_bind_110 : decode cX3_bind 110 = .ok (.aload_n 0, 1) := by decide +kernel
theorem dX3_bind_111 : decode cX3_bind 111 = .ok (.getfield 21, 3) := by decide +kernel
theorem dX3_bind_114 : decode cX3_bind 114 = .ok (.aload_n 0, 1) := by decide +kernel
theorem dX3_bind_115 : decode cX3_bind 115 = .ok (.getfield 24, 3) := by decide +kernel
theorem dX3_bind_118 : decode cX3_bind 118 = .ok (.isub, 1) := by decide +kernel
theorem dX3_bind_119 : decode cX3_bind 119 = .ok (.aload_n 0, 1) := by decide +kernel
theorem dX3_bind_120 : decode cX3_bind 120 = .ok (.getfield 21, 3) := by decide +kernel
theorem dX3_bind_123 : decode cX3_bind 123 = .ok (.aload_n 0, 1) := by decide +kernel
theorem dX3_bind_124 : decode cX3_bind 124 = .ok (.getfield 24, 3) := by decide +kernel
theorem dX3_bind_127 : decode cX3_bind 127 = .ok (.iadd, 1) := by decide +kernel
theorem dX3_bind_128 : decode cX3_bind 128 = .ok (.invokevirtual 35, 3) := by decide +kernel
theorem dX3_bind_131 : decode cX3_bind 131 = .ok (.ireturn, 1) := by decide +kernel
theorem dX4_init_0 : decode cX4_init 0 = .ok (.aload_n 0, 1) := by decide +kernel
theorem dX4_init_1 : decode cX4_init 1 = .ok (.invokespecial 3, 3) := by decide +kernel
theorem dX4_init_4 : decode cX4_init 4 = .ok (.aload_n 0, 1) := by decide +kernel
theorem dX4_init_5 : decode cX4_init 5 = .ok (.bipush 10, 2) := by decide +kernel
theorem dX4_init_7 : decode cX4_init 7 = .ok (.anewarray 9, 3) := by decide +kernel
theorem dX4_init_10 : decode cX4_init 10 = .ok (.putfield 11, 3) := by decide +kernel
theorem dX4_init_13 : decode cX4_init 13 = .ok (.aload_n 0, 1) := by decide +kernel
theorem dX4_init_14 : decode cX4_init 14 = .ok (.iconst 0, 1) := by decide +kernel
theorem dX4_init_15 : decode cX4_init 15 = .ok (.putfield 17, 3) := by decide +kernel
theorem dX4_init_18 : decode cX4_init 18 = .ok (.return_, 1) := by decide +kernel
theorem dX4_add_0 : decode cX4_add 0 = .ok (.aload_n 0, 1) := by decide +kernel
theorem dX4_add_1 : decode cX4_add 1 = .ok (.getfield 17, 3) := by decide +kernel
theorem dX4_add_4 : decode cX4_add 4 = .ok (.aload_n 0, 1) := by decide +kernel
theorem dX4_add_5 : decode cX4_add 5 = .ok (.getfield 11, 3) := by decide +kernel
theorem dX4_add_8 : decode cX4_add 8 = .ok (.arraylength, 1) := by decide +kernel
theorem dX4_add_9 : decode cX4_add 9 = .ok (.if_icmp .lt 5, 3) := by decide +kernel
theorem dX4_add_12 : decode cX4_add 12 = .ok (.iconst (-1), 1) := by decide +kernel
theorem dX4_add_13 : decode cX4_add 13 = .ok (.ireturn, 1) := by decide +kernel
theorem dX4_add_14 : decode cX4_add 14 = .ok (.aload_n 0, 1) := by decide +kernel
theorem dX4_add_15 : decode cX4_add 15 = .ok (.getfield 11, 3) := by decide +kernel
theorem dX4_add_18 : decode cX4_add 18 = .ok (.aload_n 0, 1) := by decide +kernel
theorem dX4_add_19 : decode cX4_add 19 = .ok (.getfield 17, 3) := by decide +kernel
theorem dX4_add_22 : decode cX4_add 22 = .ok (.aload_n 1, 1) := by decide +kernel
theorem dX4_add_23 : decode cX4_add 23 = .ok (.aastore, 1) := by decide +kernel
theorem dX4_add_24 : decode cX4_add 24 = .ok (.aload_n 0, 1) := by decide +kernel
theorem dX4_add_25 : decode cX4_add 25 = .ok (.dup, 1) := by decide +kernel
theorem dX4_add_26 : decode cX4_add 26 = .ok (.getfield 17, 3) := by decide +kernel
theorem dX4_add_29 : decode cX4_add 29 = .ok (.iconst 1, 1) := by decide +kernel
theorem dX4_add_30 : decode cX4_add 30 = .ok (.iadd, 1) := by decide +kernel
theorem dX4_add_31 : decode cX4_add 31 = .ok (.putfield 17, 3) := by decide +kernel
theorem dX4_add_34 : decode cX4_add 34 = .ok (.aload_n 0, 1) := by decide +kernel
theorem dX4_add_35 : decode cX4_add 35 = .ok (.getfield 17, 3) := by decide +kernel
theorem dX4_add_38 : decode cX4_add 38 = .ok (.iconst 1, 1) := by decide +kernel
theorem dX4_add_39 : decode cX4_add 39 = .ok (.isub, 1) := by decide +kernel
theorem dX4_add_40 : decode cX4_add 40 = .ok (.ireturn, 1) := by decide +kernel
theorem dX4_remove_0 : decode cX4_remove 0 = .ok (.aload_n 0, 1) := by decide +kernel
theorem dX4_remove_1 : decode cX4_remove 1 = .ok (.iload_n 1, 1) := by decide +kernel
theorem dX4_remove_2 : decode cX4_remove 2 = .ok (.invokevirtual 21, 3) := by decide +kernel
theorem dX4_remove_5 : decode cX4_remove 5 = .ok (.ifnonnull 5, 3) := by decide +kernel
theorem dX4_remove_8 : decode cX4_remove 8 = .ok (.iconst 0, 1) := by decide +kernel
theorem dX4_remove_9 : decode cX4_remove 9 = .ok (.ireturn, 1) := by decide +kernel
theorem dX4_remove_10 : decode cX4_remove 10 = .ok (.aload_n 0, 1) := by decide +kernel
theorem dX4_remove_11 : decode cX4_remove 11 = .ok (.getfield 11, 3) := by decide +kernel
theorem dX4_remove_14 : decode cX4_remove 14 = .ok (.iload_n 1, 1) := by decide +kernel
theorem dX4_remove_15 : decode cX4_remove 15 = .ok (.aconst_null, 1) := by decide +kernel
theorem dX4_remove_16 : decode cX4_remove 16 = .ok (.aastore, 1) := by decide +kernel
theorem dX4_remove_17 : decode cX4_remove 17 = .ok (.iconst 1, 1) := by decide +kernel
theorem dX4_remove_18 : decode cX4_remove 18 = .ok (.ireturn, 1) := by decide +kernel
theorem dX4_at_0 : decode cX4_at 0 = .ok (.iload_n 1, 1) := by decide +kernel
theorem dX4_at_1 : decode cX4_at 1 = .ok (.ifCond .lt 21, 3) := by decide +kernel
theorem dX4_at_4 : decode cX4_at 4 = .ok (.iload_n 1, 1) := by decide +kernel
theorem dX4_at_5 : decode cX4_at 5 = .ok (.aload_n 0, 1) := by decide +kernel
theorem dX4_at_6 : decode cX4_at 6 = .ok (.getfield 11, 3) := by decide +kernel
theorem dX4_at_9 : decode cX4_at 9 = .ok (.arraylength, 1) := by decide +kernel
theorem dX4_at_10 : decode cX4_at 10 = .ok (.if_icmp .ge 12, 3) := by decide +kernel
theorem dX4_at_13 : decode cX4_at 13 = .ok (.aload_n 0, 1) := by decide +kernel
theorem dX4_at_14 : decode cX4_at 14 = .ok (.getfield 11, 3) := by decide +kernel
theorem dX4_at_17 : decode cX4_at 17 = .ok (.iload_n 1, 1) := by decide +kernel
theorem dX4_at_18 : decode cX4_at 18 = .ok (.aaload, 1) := by decide +kernel
theorem dX4_at_19 : decode cX4_at 19 = .ok (.goto 4, 3) := by decide +kernel
theorem dX4_at_22 : decode cX4_at 22 = .ok (.aconst_null, 1) := by decide +kernel
theorem dX4_at_23 : decode cX4_at 23 = .ok (.areturn, 1) := by decide +kernel
theorem dX4_came_0 : decode cX4_came 0 = .ok (.aload_n 0, 1) := by decide +kernel
theorem dX4_came_1 : decode cX4_came 1 = .ok (.getfield 17, 3) := by decide +kernel
theorem dX4_came_4 : decode cX4_came 4 = .ok (.ireturn, 1) := by decide +kernel
theorem dX4_heap_0 : decode cX4_heap 0 = .ok (.iconst 0, 1) := by decide +kernel
theorem dX4_heap_1 : decode cX4_heap 1 = .ok (.istore_n 1, 1) := by decide +kernel
theorem dX4_heap_2 : decode cX4_heap 2 = .ok (.iconst 0, 1) := by decide +kernel
theorem dX4_heap_3 : decode cX4_heap 3 = .ok (.istore_n 2, 1) := by decide +kernel
theorem dX4_heap_4 : decode cX4_heap 4 = .ok (.iload_n 2, 1) := by decide +kernel
theorem dX4_heap_5 : decode cX4_heap 5 = .ok (.aload_n 0, 1) := by decide +kernel
theorem dX4_heap_6 : decode cX4_heap 6 = .ok (.getfield 17, 3) := by decide +kernel
theorem dX4_heap_9 : decode cX4_heap 9 = .ok (.if_icmp .ge 23, 3) := by decide +kernel
theorem dX4_heap_12 : decode cX4_heap 12 = .ok (.aload_n 0, 1) := by decide +kernel
theorem dX4_heap_13 : decode cX4_heap 13 = .ok (.iload_n 2, 1) := by decide +kernel
theorem dX4_heap_14 : decode cX4_heap 14 = .ok (.invokevirtual 21, 3) := by decide +kernel
theorem dX4_heap_17 : decode cX4_heap 17 = .ok (.ifnull 9, 3) := by decide +kernel
theorem dX4_heap_20 : decode cX4_heap 20 = .ok (.iload_n 1, 1) := by decide +kernel
theorem dX4_heap_21 : decode cX4_heap 21 = .ok (.iconst 1, 1) := by decide +kernel
theorem dX4_heap_22 : decode cX4_heap 22 = .ok (.iload_n 2, 1) := by decide +kernel
theorem dX4_heap_23 : decode cX4_heap 23 = .ok (.ishl, 1) := by decide +kernel
theorem dX4_heap_24 : decode cX4_heap 24 = .ok (.ior, 1) := by decide +kernel
theorem dX4_heap_25 : decode cX4_heap 25 = .ok (.istore_n 1, 1) := by decide +kernel
theorem dX4_heap_26 : decode cX4_heap 26 = .ok (.iinc 2 1, 3) := by decide +kernel
theorem dX4_heap_29 : decode cX4_heap 29 = .ok (.goto (-25), 3) := by decide +kernel
theorem dX4_heap_32 : decode cX4_heap 32 = .ok (.iload_n 1, 1) := by decide +kernel
theorem dX4_heap_33 : decode cX4_heap 33 = .ok (.ireturn, 1) := by decide +kernel
theorem dX5_init_0 : decode cX5_init 0 = .ok (.aload_n 0, 1) := by decide +kernel
theorem dX5_init_1 : decode cX5_init 1 = .ok (.invokespecial 1, 3) := by decide +kernel
theorem dX5_init_4 : decode cX5_init 4 = .ok (.iconst 2, 1) := by decide +kernel
theorem dX5_init_5 : decode cX5_init 5 = .ok (.iload_n 1, 1) := by decide +kernel
theorem dX5_init_6 : decode cX5_init 6 = .ok (.bipush 8, 2) := by decide +kernel
theorem dX5_init_8 : decode cX5_init 8 = .ok (.invokestatic 7, 3) := by decide +kernel
theorem dX5_init_11 : decode cX5_init 11 = .ok (.invokestatic 13, 3) := by decide +kernel
theorem dX5_init_14 : decode cX5_init 14 = .ok (.istore_n 3, 1) := by decide +kernel
theorem dX5_init_15 : decode cX5_init 15 = .ok (.iconst 1, 1) := by decide +kernel
theorem dX5_init_16 : decode cX5_init 16 = .ok (.iload_n 2, 1) := by decide +kernel
theorem dX5_init_17 : decode cX5_init 17 = .ok (.iconst 4, 1) := by decide +kernel
theorem dX5_init_18 : decode cX5_init 18 = .ok (.invokestatic 7, 3) := by decide +kernel
theorem dX5_init_21 : decode cX5_init 21 = .ok (.invokestatic 13, 3) := by decide +kernel
theorem dX5_init_24 : decode cX5_init 24 = .ok (.istore 4, 2) := by decide +kernel
theorem dX5_init_26 : decode cX5_init 26 = .ok (.aload_n 0, 1) := by decide +kernel
theorem dX5_init_27 : decode cX5_init 27 = .ok (.new 16, 3) := by decide +kernel
theorem dX5_init_30 : decode cX5_init 30 = .ok (.dup, 1) := by decide +kernel
theorem dX5_init_31 : decode cX5_init 31 = .ok (.iload_n 3, 1) := by decide +kernel
theorem dX5_init_32 : decode cX5_init 32 = .ok (.iload 4, 2) := by decide +kernel
theorem dX5_init_34 : decode cX5_init 34 = .ok (.invokespecial 18, 3) := by decide +kernel
theorem dX5_init_37 : decode cX5_init 37 = .ok (.putfield 21, 3) := by decide +kernel
theorem dX5_init_40 : decode cX5_init 40 = .ok (.aload_n 0, 1) := by decide +kernel
theorem dX5_init_41 : decode cX5_init 41 = .ok (.new 27, 3) := by decide +kernel
theorem dX5_init_44 : decode cX5_init 44 = .ok (.dup, 1) := by decide +kernel
theorem dX5_init_45 : decode cX5_init 45 = .ok (.invokespecial 29, 3) := by decide +kernel
theorem dX5_init_48 : decode cX5_init 48 = .ok (.putfield 30, 3) := by decide +kernel
theorem dX5_init_51 : decode cX5_init 51 = .ok (.aload_n 0, 1) := by decide +kernel
theorem dX5_init_52 : decode cX5_init 52 = .ok (.new 34, 3) := by decide +kernel
theorem dX5_init_55 : decode cX5_init 55 = .ok (.dup, 1) := by decide +kernel
theorem dX5_init_56 : decode cX5_init 56 = .ok (.aload_n 0, 1) := by decide +kernel
theorem dX5_init_57 : decode cX5_init 57 = .ok (.getfield 21, 3) := by decide +kernel
theorem dX5_init_60 : decode cX5_init 60 = .ok (.aload_n 0, 1) := by decide +kernel
theorem dX5_init_61 : decode cX5_init 61 = .ok (.getfield 30, 3) := by decide +kernel
theorem dX5_init_64 : decode cX5_init 64 = .ok (.invokespecial 36, 3) := by decide +kernel
theorem dX5_init_67 : decode cX5_init 67 = .ok (.putfield 39, 3) := by decide +kernel
theorem dX5_init_70 : decode cX5_init 70 = .ok (.aload_n 0, 1) := by decide +kernel
theorem dX5_init_71 : decode cX5_init 71 = .ok (.iload_n 3, 1) := by decide +kernel
theorem dX5_init_72 : decode cX5_init 72 = .ok (.newarray .int, 2) := by decide +kernel
theorem dX5_init_74 : decode cX5_init 74 = .ok (.putfield 43, 3) := by decide +kernel
theorem dX5_init_77 : decode cX5_init 77 = .ok (.return_, 1) := by decide +kernel
theorem dX5_thick_0 : decode cX5_thick 0 = .ok (.aload_n 0, 1) := by decide +kernel
theorem dX5_thick_1 : decode cX5_thick 1 = .ok (.getfield 21, 3) := by decide +kernel
theorem dX5_thick_4 : decode cX5_thick 4 = .ok (.iload_n 1, 1) := by decide +kernel
theorem dX5_thick_5 : decode cX5_thick 5 = .ok (.invokevirtual 47, 3) := by decide +kernel
theorem dX5_thick_8 : decode cX5_thick 8 = .ok (.ifCond .eq 16, 3) := by decide +kernel
theorem dX5_thick_11 : decode cX5_thick 11 = .ok (.aload_n 0, 1) := by decide +kernel
theorem dX5_thick_12 : decode cX5_thick 12 = .ok (.getfield 21, 3) := by decide +kernel
theorem dX5_thick_15 : decode cX5_thick 15 = .ok (.iload_n 1, 1) := by decide +kernel
theorem dX5_thick_16 : decode cX5_thick 16 = .ok (.iconst 1, 1) := by decide +kernel
theorem dX5_thick_17 : decode cX5_thick 17 = .ok (.iadd, 1) := by decide +kernel
theorem dX5_thick_18 : decode cX5_thick 18 = .ok (.invokevirtual 47, 3) := by decide +kernel
theorem dX5_thick_21 : decode cX5_thick 21 = .ok (.ifCond .ne 5, 3) := by decide +kernel
theorem dX5_thick_24 : decode cX5_thick 24 = .ok (.iconst 0, 1) := by decide +kernel
theorem dX5_thick_25 : decode cX5_thick 25 = .ok (.ireturn, 1) := by decide +kernel
theorem dX5_thick_26 : decode cX5_thick 26 = .ok (.iload_n 2, 1) := by decide +kernel
theorem dX5_thick_27 : decode cX5_thick 27 = .ok (.invokestatic 51, 3) := by decide +kernel
theorem dX5_thick_30 : decode cX5_thick 30 = .ok (.ifCond .eq 15, 3) := by decide +kernel
theorem dX5_thick_33 : decode cX5_thick 33 = .ok (.iload_n 3, 1) := by decide +kernel
theorem dX5_thick_34 : decode cX5_thick 34 = .ok (.invokestatic 51, 3) := by decide +kernel
theorem dX5_thick_37 : decode cX5_thick 37 = .ok (.ifCond .eq 8, 3) := by decide +kernel
theorem dX5_thick_40 : decode cX5_thick 40 = .ok (.iload_n 2, 1) := by decide +kernel
theorem dX5_thick_41 : decode cX5_thick 41 = .ok (.iload_n 3, 1) := by decide +kernel
theorem dX5_thick_42 : decode cX5_thick 42 = .ok (.if_icmp .le 5, 3) := by decide +kernel
theorem dX5_thick_45 : decode cX5_thick 45 = .ok (.iconst 0, 1) := by decide +kernel
theorem dX5_thick_46 : decode cX5_thick 46 = .ok (.ireturn, 1) := by decide +kernel
theorem dX5_thick_47 : decode cX5_thick 47 = .ok (.aload_n 0, 1) := by decide +kernel
theorem dX5_thick_48 : decode cX5_thick 48 = .ok (.getfield 21, 3) := by decide +kernel
theorem dX5_thick_51 : decode cX5_thick 51 = .ok (.iload_n 1, 1) := by decide +kernel
theorem dX5_thick_52 : decode cX5_thick 52 = .ok (.iload_n 2, 1) := by decide +kernel
theorem dX5_thick_53 : decode cX5_thick 53 = .ok (.iload_n 3, 1) := by decide +kernel
theorem dX5_thick_54 : decode cX5_thick 54 = .ok (.invokevirtual 54, 3) := by decide +kernel
theorem dX5_thick_57 : decode cX5_thick 57 = .ok (.aload_n 0, 1) := by decide +kernel
theorem dX5_thick_58 : decode cX5_thick 58 = .ok (.getfield 39, 3) := by decide +kernel
theorem dX5_thick_61 : decode cX5_thick 61 = .ok (.invokevirtual 58, 3) := by decide +kernel
theorem dX5_thick_64 : decode cX5_thick 64 = .ok (.iconst 1, 1) := by decide +kernel
theorem dX5_thick_65 : decode cX5_thick 65 = .ok (.ireturn, 1) := by decide +kernel
theorem dX5_steep_0 : decode cX5_steep 0 = .ok (.aload_n 0, 1) := by decide +kernel
theorem dX5_steep_1 : decode cX5_steep 1 = .ok (.getfield 21, 3) := by decide +kernel
theorem dX5_steep_4 : decode cX5_steep 4 = .ok (.iload_n 1, 1) := by decide +kernel
theorem dX5_steep_5 : decode cX5_steep 5 = .ok (.invokevirtual 47, 3) := by decide +kernel
theorem dX5_steep_8 : decode cX5_steep 8 = .ok (.ifCond .eq 10, 3) := by decide +kernel
theorem dX5_steep_11 : decode cX5_steep 11 = .ok (.iload_n 2, 1) := by decide +kernel
