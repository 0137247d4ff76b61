theorem dX0_init_0 : decode cX0_init 0 = .ok (.aload_n 0, 1) := by decide +kernel
theorem dX0_init_1 : decode cX0_init 1 = .ok (.invokespecial 3, 3) := by decide +kernel
theorem dX0_init_4 : decode cX0_init 4 = .ok (.aload_n 0, 1) := by decide +kernel
theorem dX0_init_5 : decode cX0_init 5 = .ok (.bipush 10, 2) := by decide +kernel
theorem dX0_init_7 : decode cX0_init 7 = .ok (.anewarray 9, 3) := by decide +kernel
theorem dX0_init_10 : decode cX0_init 10 = .ok (.putfield 11, 3) := by decide +kernel
theorem dX0_init_13 : decode cX0_init 13 = .ok (.aload_n 0, 1) := by decide +kernel
theorem dX0_init_14 : decode cX0_init 14 = .ok (.iconst 0, 1) := by decide +kernel
theorem dX0_init_15 : decode cX0_init 15 = .ok (.putfield 17, 3) := by decide +kernel
theorem dX0_init_18 : decode cX0_init 18 = .ok (.aload_n 0, 1) := by decide +kernel
theorem dX0_init_19 : decode cX0_init 19 = .ok (.iconst 0, 1) := by decide +kernel
theorem dX0_init_20 : decode cX0_init 20 = .ok (.putfield 21, 3) := by decide +kernel
theorem dX0_init_23 : decode cX0_init 23 = .ok (.aload_n 0, 1) := by decide +kernel
theorem dX0_init_24 : decode cX0_init 24 = .ok (.iconst 0, 1) := by decide +kernel
theorem dX0_init_25 : decode cX0_init 25 = .ok (.putfield 24, 3) := by decide +kernel
theorem dX0_init_28 : decode cX0_init 28 = .ok (.aload_n 0, 1) := by decide +kernel
theorem dX0_init_29 : decode cX0_init 29 = .ok (.iconst 0, 1) := by decide +kernel
theorem dX0_init_30 : decode cX0_init 30 = .ok (.putfield 27, 3) := by decide +kernel
theorem dX0_init_33 : decode cX0_init 33 = .ok (.aload_n 0, 1) := by decide +kernel
theorem dX0_init_34 : decode cX0_init 34 = .ok (.aload_n 1, 1) := by decide +kernel
theorem dX0_init_35 : decode cX0_init 35 = .ok (.putfield 31, 3) := by decide +kernel
theorem dX0_init_38 : decode cX0_init 38 = .ok (.aload_n 0, 1) := by decide +kernel
theorem dX0_init_39 : decode cX0_init 39 = .ok (.aload_n 2, 1) := by decide +kernel
theorem dX0_init_40 : decode cX0_init 40 = .ok (.putfield 35, 3) := by decide +kernel
theorem dX0_init_43 : decode cX0_init 43 = .ok (.iconst 0, 1) := by decide +kernel
theorem dX0_init_44 : decode cX0_init 44 = .ok (.istore_n 3, 1) := by decide +kernel
theorem dX0_init_45 : decode cX0_init 45 = .ok (.iload_n 3, 1) := by decide +kernel
theorem dX0_init_46 : decode cX0_init 46 = .ok (.aload_n 0, 1) := by decide +kernel
theorem dX0_init_47 : decode cX0_init 47 = .ok (.getfield 11, 3) := by decide +kernel
theorem dX0_init_50 : decode cX0_init 50 = .ok (.arraylength, 1) := by decide +kernel
theorem dX0_init_51 : decode cX0_init 51 = .ok (.if_icmp .ge 26, 3) := by decide +kernel
theorem dX0_init_54 : decode cX0_init 54 = .ok (.aload_n 0, 1) := by decide +kernel
theorem dX0_init_55 : decode cX0_init 55 = .ok (.getfield 11, 3) := by decide +kernel
theorem dX0_init_58 : decode cX0_init 58 = .ok (.iload_n 3, 1) := by decide +kernel
theorem dX0_init_59 : decode cX0_init 59 = .ok (.new 9, 3) := by decide +kernel
theorem dX0_init_62 : decode cX0_init 62 = .ok (.dup, 1) := by decide +kernel
theorem dX0_init_63 : decode cX0_init 63 = .ok (.aload_n 1, 1) := by decide +kernel
theorem dX0_init_64 : decode cX0_init 64 = .ok (.invokevirtual 39, 3) := by decide +kernel
theorem dX0_init_67 : decode cX0_init 67 = .ok (.invokespecial 45, 3) := by decide +kernel
theorem dX0_init_70 : decode cX0_init 70 = .ok (.aastore, 1) := by decide +kernel
theorem dX0_init_71 : decode cX0_init 71 = .ok (.iinc 3 1, 3) := by decide +kernel
theorem dX0_init_74 : decode cX0_init 74 = .ok (.goto (-29), 3) := by decide +kernel
theorem dX0_init_77 : decode cX0_init 77 = .ok (.aload_n 0, 1) := by decide +kernel
theorem dX0_init_78 : decode cX0_init 78 = .ok (.new 9, 3) := by decide +kernel
theorem dX0_init_81 : decode cX0_init 81 = .ok (.dup, 1) := by decide +kernel
theorem dX0_init_82 : decode cX0_init 82 = .ok (.aload_n 1, 1) := by decide +kernel
theorem dX0_init_83 : decode cX0_init 83 = .ok (.invokevirtual 39, 3) := by decide +kernel
theorem dX0_init_86 : decode cX0_init 86 = .ok (.invokespecial 45, 3) := by decide +kernel
theorem dX0_init_89 : decode cX0_init 89 = .ok (.putfield 48, 3) := by decide +kernel
theorem dX0_init_92 : decode cX0_init 92 = .ok (.aload_n 0, 1) := by decide +kernel
theorem dX0_init_93 : decode cX0_init 93 = .ok (.new 9, 3) := by decide +kernel
theorem dX0_init_96 : decode cX0_init 96 = .ok (.dup, 1) := by decide +kernel
theorem dX0_init_97 : decode cX0_init 97 = .ok (.aload_n 1, 1) := by decide +kernel
theorem dX0_init_98 : decode cX0_init 98 = .ok (.invokevirtual 39, 3) := by decide +kernel
theorem dX0_init_101 : decode cX0_init 101 = .ok (.invokespecial 45, 3) := by decide +kernel
theorem dX0_init_104 : decode cX0_init 104 = .ok (.putfield 52, 3) := by decide +kernel
theorem dX0_init_107 : decode cX0_init 107 = .ok (.return_, 1) := by decide +kernel
theorem dX0_forgetRock_0 : decode cX0_forgetRock 0 = .ok (.aload_n 0, 1) := by decide +kernel
theorem dX0_forgetRock_1 : decode cX0_forgetRock 1 = .ok (.iconst 0, 1) := by decide +kernel
theorem dX0_forgetRock_2 : decode cX0_forgetRock 2 = .ok (.putfield 17, 3) := by decide +kernel
theorem dX0_forgetRock_5 : decode cX0_forgetRock 5 = .ok (.aload_n 0, 1) := by decide +kernel
theorem dX0_forgetRock_6 : decode cX0_forgetRock 6 = .ok (.iconst 0, 1) := by decide +kernel
theorem dX0_forgetRock_7 : decode cX0_forgetRock 7 = .ok (.putfield 21, 3) := by decide +kernel
theorem dX0_forgetRock_10 : decode cX0_forgetRock 10 = .ok (.return_, 1) := by decide +kernel
theorem dX0_forgetQuarrel_0 : decode cX0_forgetQuarrel 0 = .ok (.aload_n 0, 1) := by decide +kernel
theorem dX0_forgetQuarrel_1 : decode cX0_forgetQuarrel 1 = .ok (.iconst 0, 1) := by decide +kernel
theorem dX0_forgetQuarrel_2 : decode cX0_forgetQuarrel 2 = .ok (.putfield 21, 3) := by decide +kernel
theorem dX0_forgetQuarrel_5 : decode cX0_forgetQuarrel 5 = .ok (.return_, 1) := by decide +kernel
theorem dX0_areSome_0 : decode cX0_areSome 0 = .ok (.aload_n 0, 1) := by decide +kernel
theorem dX0_areSome_1 : decode cX0_areSome 1 = .ok (.getfield 17, 3) := by decide +kernel
theorem dX0_areSome_4 : decode cX0_areSome 4 = .ok (.ifCond .ne 30, 3) := by decide +kernel
theorem dX0_areSome_7 : decode cX0_areSome 7 = .ok (.aload_n 0, 1) := by decide +kernel
theorem dX0_areSome_8 : decode cX0_areSome 8 = .ok (.getfield 48, 3) := by decide +kernel
theorem dX0_areSome_11 : decode cX0_areSome 11 = .ok (.invokevirtual 55, 3) := by decide +kernel
theorem dX0_areSome_14 : decode cX0_areSome 14 = .ok (.aload_n 0, 1) := by decide +kernel
theorem dX0_areSome_15 : decode cX0_areSome 15 = .ok (.aload_n 0, 1) := by decide +kernel
theorem dX0_areSome_16 : decode cX0_areSome 16 = .ok (.getfield 31, 3) := by decide +kernel
theorem dX0_areSome_19 : decode cX0_areSome 19 = .ok (.aload_n 0, 1) := by decide +kernel
theorem dX0_areSome_20 : decode cX0_areSome 20 = .ok (.getfield 48, 3) := by decide +kernel
theorem dX0_areSome_23 : decode cX0_areSome 23 = .ok (.invokevirtual 58, 3) := by decide +kernel
theorem dX0_areSome_26 : decode cX0_areSome 26 = .ok (.putfield 24, 3) := by decide +kernel
theorem dX0_areSome_29 : decode cX0_areSome 29 = .ok (.aload_n 0, 1) := by decide +kernel
theorem dX0_areSome_30 : decode cX0_areSome 30 = .ok (.iconst 1, 1) := by decide +kernel
theorem dX0_areSome_31 : decode cX0_areSome 31 = .ok (.putfield 17, 3) := by decide +kernel
theorem dX0_areSome_34 : decode cX0_areSome 34 = .ok (.aload_n 0, 1) := by decide +kernel
theorem dX0_areSome_35 : decode cX0_areSome 35 = .ok (.getfield 24, 3) := by decide +kernel
theorem dX0_areSome_38 : decode cX0_areSome 38 = .ok (.ifCond .eq 19, 3) := by decide +kernel
theorem dX0_areSome_41 : decode cX0_areSome 41 = .ok (.aload_n 0, 1) := by decide +kernel
theorem dX0_areSome_42 : decode cX0_areSome 42 = .ok (.getfield 21, 3) := by decide +kernel
theorem dX0_areSome_45 : decode cX0_areSome 45 = .ok (.ifCond .ne 12, 3) := by decide +kernel
theorem dX0_areSome_48 : decode cX0_areSome 48 = .ok (.aload_n 0, 1) := by decide +kernel
theorem dX0_areSome_49 : decode cX0_areSome 49 = .ok (.invokevirtual 62, 3) := by decide +kernel
theorem dX0_areSome_52 : decode cX0_areSome 52 = .ok (.aload_n 0, 1) := by decide +kernel
theorem dX0_areSome_53 : decode cX0_areSome 53 = .ok (.iconst 1, 1) := by decide +kernel
theorem dX0_areSome_54 : decode cX0_areSome 54 = .ok (.putfield 21, 3) := by decide +kernel
theorem dX0_areSome_57 : decode cX0_areSome 57 = .ok (.aload_n 0, 1) := by decide +kernel
theorem dX0_areSome_58 : decode cX0_areSome 58 = .ok (.getfield 24, 3) := by decide +kernel
theorem dX0_areSome_61 : decode cX0_areSome 61 = .ok (.ireturn, 1) := by decide +kernel
theorem dX0_leftOut_0 : decode cX0_leftOut 0 = .ok (.aload_n 0, 1) := by decide +kernel
theorem dX0_leftOut_1 : decode cX0_leftOut 1 = .ok (.getfield 27, 3) := by decide +kernel
theorem dX0_leftOut_4 : decode cX0_leftOut 4 = .ok (.ireturn, 1) := by decide +kernel
theorem dX0_agreed_0 : decode cX0_agreed 0 = .ok (.aload_n 0, 1) := by decide +kernel
theorem dX0_agreed_1 : decode cX0_agreed 1 = .ok (.getfield 52, 3) := by decide +kernel
theorem dX0_agreed_4 : decode cX0_agreed 4 = .ok (.areturn, 1) := by decide +kernel
theorem dX0_findQuarrel_0 : decode cX0_findQuarrel 0 = .ok (.aload_n 0, 1) := by decide +kernel
theorem dX0_findQuarrel_1 : decode cX0_findQuarrel 1 = .ok (.aload_n 0, 1) := by decide +kernel
theorem dX0_findQuarrel_2 : decode cX0_findQuarrel 2 = .ok (.getfield 35, 3) := by decide +kernel
theorem dX0_findQuarrel_5 : decode cX0_findQuarrel 5 = .ok (.invokevirtual 65, 3) := by decide +kernel
theorem dX0_findQuarrel_8 : decode cX0_findQuarrel 8 = .ok (.putfield 27, 3) := by decide +kernel
theorem dX0_findQuarrel_11 : decode cX0_findQuarrel 11 = .ok (.aload_n 0, 1) := by decide +kernel
theorem dX0_findQuarrel_12 : decode cX0_findQuarrel 12 = .ok (.getfield 52, 3) := by decide +kernel
theorem dX0_findQuarrel_15 : decode cX0_findQuarrel 15 = .ok (.aload_n 0, 1) := by decide +kernel
theorem dX0_findQuarrel_16 : decode cX0_findQuarrel 16 = .ok (.getfield 48, 3) := by decide +kernel
theorem dX0_findQuarrel_19 : decode cX0_findQuarrel 19 = .ok (.invokevirtual 70, 3) := by decide +kernel
theorem dX0_findQuarrel_22 : decode cX0_findQuarrel 22 = .ok (.aload_n 0, 1) := by decide +kernel
theorem dX0_findQuarrel_23 : decode cX0_findQuarrel 23 = .ok (.aload_n 0, 1) := by decide +kernel
theorem dX0_findQuarrel_24 : decode cX0_findQuarrel 24 = .ok (.getfield 48, 3) := by decide +kernel
theorem dX0_findQuarrel_27 : decode cX0_findQuarrel 27 = .ok (.aload_n 0, 1) := by decide +kernel
theorem dX0_findQuarrel_28 : decode cX0_findQuarrel 28 = .ok (.getfield 35, 3) := by decide +kernel
theorem dX0_findQuarrel_31 : decode cX0_findQuarrel 31 = .ok (.invokevirtual 74, 3) := by decide +kernel
theorem dX0_findQuarrel_34 : decode cX0_findQuarrel 34 = .ok (.aload_n 0, 1) := by decide +kernel
theorem dX0_findQuarrel_35 : decode cX0_findQuarrel 35 = .ok (.getfield 11, 3) := by decide +kernel
theorem dX0_findQuarrel_38 : decode cX0_findQuarrel 38 = .ok (.arraylength, 1) := by decide +kernel
theorem dX0_findQuarrel_39 : decode cX0_findQuarrel 39 = .ok (.invokestatic 77, 3) := by decide +kernel
theorem dX0_findQuarrel_42 : decode cX0_findQuarrel 42 = .ok (.iconst 0, 1) := by decide +kernel
theorem dX0_findQuarrel_43 : decode cX0_findQuarrel 43 = .ok (.invokestatic 83, 3) := by decide +kernel
theorem dX0_findQuarrel_46 : decode cX0_findQuarrel 46 = .ok (.return_, 1) := by decide +kernel
theorem dX0_decide_0 : decode cX0_decide 0 = .ok (.iload_n 3, 1) := by decide +kernel
theorem dX0_decide_1 : decode cX0_decide 1 = .ok (.invokestatic 87, 3) := by decide +kernel
theorem dX0_decide_4 : decode cX0_decide 4 = .ok (.aload_n 0, 1) := by decide +kernel
theorem dX0_decide_5 : decode cX0_decide 5 = .ok (.getfield 27, 3) := by decide +kernel
theorem dX0_decide_8 : decode cX0_decide 8 = .ok (.invokestatic 87, 3) := by decide +kernel
theorem dX0_decide_11 : decode cX0_decide 11 = .ok (.if_icmp .lt 4, 3) := by decide +kernel
theorem dX0_decide_14 : decode cX0_decide 14 = .ok (.return_, 1) := by decide +kernel
theorem dX0_decide_15 : decode cX0_decide 15 = .ok (.iload_n 2, 1) := by decide +kernel
theorem dX0_decide_16 : decode cX0_decide 16 = .ok (.aload_n 0, 1) := by decide +kernel
theorem dX0_decide_17 : decode cX0_decide 17 = .ok (.getfield 11, 3) := by decide +kernel
theorem dX0_decide_20 : decode cX0_decide 20 = .ok (.arraylength, 1) := by decide +kernel
theorem dX0_decide_21 : decode cX0_decide 21 = .ok (.if_icmp .le 4, 3) := by decide +kernel
theorem dX0_decide_24 : decode cX0_decide 24 = .ok (.return_, 1) := by decide +kernel
theorem dX0_decide_25 : decode cX0_decide 25 = .ok (.iload_n 2, 1) := by decide +kernel
theorem dX0_decide_26 : decode cX0_decide 26 = .ok (.ifCond .gt 17, 3) := by decide +kernel
theorem dX0_decide_29 : decode cX0_decide 29 = .ok (.aload_n 0, 1) := by decide +kernel
theorem dX0_decide_30 : decode cX0_decide 30 = .ok (.iload_n 3, 1) := by decide +kernel
theorem dX0_decide_31 : decode cX0_decide 31 = .ok (.putfield 27, 3) := by decide +kernel
theorem dX0_decide_34 : decode cX0_decide 34 = .ok (.aload_n 0, 1) := by decide +kernel
theorem dX0_decide_35 : decode cX0_decide 35 = .ok (.getfield 52, 3) := by decide +kernel
theorem dX0_decide_38 : decode cX0_decide 38 = .ok (.aload_n 1, 1) := by decide +kernel
theorem dX0_decide_39 : decode cX0_decide 39 = .ok (.invokevirtual 70, 3) := by decide +kernel
theorem dX0_decide_42 : decode cX0_decide 42 = .ok (.return_, 1) := by decide +kernel
theorem dX0_decide_43 : decode cX0_decide 43 = .ok (.iload_n 2, 1) := by decide +kernel
theorem dX0_decide_44 : decode cX0_decide 44 = .ok (.iconst 1, 1) := by decide +kernel
theorem dX0_decide_45 : decode cX0_decide 45 = .ok (.isub, 1) := by decide +kernel
theorem dX0_decide_46 : decode cX0_decide 46 = .ok (.istore 4, 2) := by decide +kernel
theorem dX0_decide_48 : decode cX0_decide 48 = .ok (.aload_n 0, 1) := by decide +kernel
theorem dX0_decide_49 : decode cX0_decide 49 = .ok (.getfield 35, 3) := by decide +kernel
theorem dX0_decide_52 : decode cX0_decide 52 = .ok (.iload 4, 2) := by decide +kernel
theorem dX0_decide_54 : decode cX0_decide 54 = .ok (.invokevirtual 93, 3) := by decide +kernel
theorem dX0_decide_57 : decode cX0_decide 57 = .ok (.astore 5, 2) := by decide +kernel
theorem dX0_decide_59 : decode cX0_decide 59 = .ok (.aload_n 0, 1) := by decide +kernel
theorem dX0_decide_60 : decode cX0_decide 60 = .ok (.getfield 11, 3) := by decide +kernel
theorem dX0_decide_63 : decode cX0_decide 63 = .ok (.iload 4, 2) := by decide +kernel
theorem dX0_decide_65 : decode cX0_decide 65 = .ok (.aaload, 1) := by decide +kernel
theorem dX0_decide_66 : decode cX0_decide 66 = .ok (.astore 6, 2) := by decide +kernel
theorem dX0_decide_68 : decode cX0_decide 68 = .ok (.aload 6, 2) := by decide +kernel
theorem dX0_decide_70 : decode cX0_decide 70 = .ok (.aload_n 1, 1) := by decide +kernel
theorem dX0_decide_71 : decode cX0_decide 71 = .ok (.invokevirtual 70, 3) := by decide +kernel
theorem dX0_decide_74 : decode cX0_decide 74 = .ok (.aload 5, 2) := by decide +kernel
theorem dX0_decide_76 : decode cX0_decide 76 = .ok (.ifnull 17, 3) := by decide +kernel
theorem dX0_decide_79 : decode cX0_decide 79 = .ok (.aload 5, 2) := by decide +kernel
theorem dX0_decide_81 : decode cX0_decide 81 = .ok (.aload 6, 2) := by decide +kernel
theorem dX0_decide_83 : decode cX0_decide 83 = .ok (.aload_n 0, 1) := by decide +kernel
theorem dX0_decide_84 : decode cX0_decide 84 = .ok (.getfield 31, 3) := by decide +kernel
theorem dX0_decide_87 : decode cX0_decide 87 = .ok (.invokevirtual 97, 3) := by decide +kernel
theorem dX0_decide_90 : decode cX0_decide 90 = .ok (.ifCond .eq 12, 3) := by decide +kernel
theorem dX0_decide_93 : decode cX0_decide 93 = .ok (.aload_n 0, 1) := by decide +kernel
theorem dX0_decide_94 : decode cX0_decide 94 = .ok (.aload 6, 2) := by decide +kernel
theorem dX0_decide_96 : decode cX0_decide 96 = .ok (.iload 4, 2) := by decide +kernel
theorem dX0_decide_98 : decode cX0_decide 98 = .ok (.iload_n 3, 1) := by decide +kernel
theorem dX0_decide_99 : decode cX0_decide 99 = .ok (.invokestatic 83, 3) := by decide +kernel
theorem dX0_decide_102 : decode cX0_decide 102 = .ok (.aload 5, 2) := by decide +kernel
theorem dX0_decide_104 : decode cX0_decide 104 = .ok (.ifnull 16, 3) := by decide +kernel
theorem dX0_decide_107 : decode cX0_decide 107 = .ok (.aload_n 0, 1) := by decide +kernel
theorem dX0_decide_108 : decode cX0_decide 108 = .ok (.aload_n 1, 1) := by decide +kernel
theorem dX0_decide_109 : decode cX0_decide 109 = .ok (.iload 4, 2) := by decide +kernel
theorem dX0_decide_111 : decode cX0_decide 111 = .ok (.iload_n 3, 1) := by decide +kernel
theorem dX0_decide_112 : decode cX0_decide 112 = .ok (.iconst 1, 1) := by decide +kernel
theorem dX0_decide_113 : decode cX0_decide 113 = .ok (.iload 4, 2) := by decide +kernel
theorem dX0_decide_115 : decode cX0_decide 115 = .ok (.ishl, 1) := by decide +kernel
theorem dX0_decide_116 : decode cX0_decide 116 = .ok (.ior, 1) := by decide +kernel
theorem dX0_decide_117 : decode cX0_decide 117 = .ok (.invokestatic 83, 3) := by decide +kernel
theorem dX0_decide_120 : decode cX0_decide 120 = .ok (.return_, 1) := by decide +kernel
theorem dX1_init_0 : decode cX1_init 0 = .ok (.aload_n 0, 1) := by decide +kernel
theorem dX1_init_1 : decode cX1_init 1 = .ok (.invokespecial 3, 3) := by decide +kernel
theorem dX1_init_4 : decode cX1_init 4 = .ok (.aload_n 0, 1) := by decide +kernel
theorem dX1_init_5 : decode cX1_init 5 = .ok (.iconst 0, 1) := by decide +kernel
theorem dX1_init_6 : decode cX1_init 6 = .ok (.iload_n 1, 1) := by decide +kernel
theorem dX1_init_7 : decode cX1_init 7 = .ok (.bipush 32, 2) := by decide +kernel
theorem dX1_init_9 : decode cX1_init 9 = .ok (.invokestatic 11, 3) := by decide +kernel
theorem dX1_init_12 : decode cX1_init 12 = .ok (.invokestatic 17, 3) := by decide +kernel
theorem dX1_init_15 : decode cX1_init 15 = .ok (.iconst 1, 1) := by decide +kernel
theorem dX1_init_16 : decode cX1_init 16 = .ok (.iadd, 1) := by decide +kernel
theorem dX1_init_17 : decode cX1_init 17 = .ok (.putfield 20, 3) := by decide +kernel
theorem dX1_init_20 : decode cX1_init 20 = .ok (.aload_n 0, 1) := by decide +kernel
theorem dX1_init_21 : decode cX1_init 21 = .ok (.aload_n 0, 1) := by decide +kernel
theorem dX1_init_22 : decode cX1_init 22 = .ok (.getfield 20, 3) := by decide +kernel
theorem dX1_init_25 : decode cX1_init 25 = .ok (.aload_n 0, 1) := by decide +kernel
theorem dX1_init_26 : decode cX1_init 26 = .ok (.getfield 20, 3) := by decide +kernel
theorem dX1_init_29 : decode cX1_init 29 = .ok (.imul, 1) := by decide +kernel
theorem dX1_init_30 : decode cX1_init 30 = .ok (.newarray .int, 2) := by decide +kernel
theorem dX1_init_32 : decode cX1_init 32 = .ok (.putfield 24, 3) := by decide +kernel
theorem dX1_init_35 : decode cX1_init 35 = .ok (.return_, 1) := by decide +kernel
theorem dX1_clear_0 : decode cX1_clear 0 = .ok (.iconst 0, 1) := by decide +kernel
theorem dX1_clear_1 : decode cX1_clear 1 = .ok (.istore_n 1, 1) := by decide +kernel
theorem dX1_clear_2 : decode cX1_clear 2 = .ok (.iload_n 1, 1) := by decide +kernel
theorem dX1_clear_3 : decode cX1_clear 3 = .ok (.aload_n 0, 1) := by decide +kernel
theorem dX1_clear_4 : decode cX1_clear 4 = .ok (.getfield 20, 3) := by decide +kernel
theorem dX1_clear_7 : decode cX1_clear 7 = .ok (.if_icmp .ge 63, 3) := by decide +kernel
theorem dX1_clear_10 : decode cX1_clear 10 = .ok (.iconst 0, 1) := by decide +kernel
theorem dX1_clear_11 : decode cX1_clear 11 = .ok (.istore_n 2, 1) := by decide +kernel
theorem dX1_clear_12 : decode cX1_clear 12 = .ok (.iload_n 2, 1) := by decide +kernel
theorem dX1_clear_13 : decode cX1_clear 13 = .ok (.aload_n 0, 1) := by decide +kernel
theorem dX1_clear_14 : decode cX1_clear 14 = .ok (.getfield 20, 3) := by decide +kernel
theorem dX1_clear_17 : decode cX1_clear 17 = .ok (.if_icmp .ge 47, 3) := by decide +kernel
theorem dX1_clear_20 : decode cX1_clear 20 = .ok (.iload_n 1, 1) := by decide +kernel
theorem dX1_clear_21 : decode cX1_clear 21 = .ok (.iload_n 2, 1) := by decide +kernel
theorem dX1_clear_22 : decode cX1_clear 22 = .ok (.if_icmp .eq 7, 3) := by decide +kernel
theorem dX1_clear_25 : decode cX1_clear 25 = .ok (.iload_n 2, 1) := by decide +kernel
theorem dX1_clear_26 : decode cX1_clear 26 = .ok (.ifCond .ne 7, 3) := by decide +kernel
theorem dX1_clear_29 : decode cX1_clear 29 = .ok (.iconst 1, 1) := by decide +kernel
theorem dX1_clear_30 : decode cX1_clear 30 = .ok (.goto 4, 3) := by decide +kernel
theorem dX1_clear_33 : decode cX1_clear 33 = .ok (.iconst 0, 1) := by decide +kernel
theorem dX1_clear_34 : decode cX1_clear 34 = .ok (.istore_n 3, 1) := by decide +kernel
theorem dX1_clear_35 : decode cX1_clear 35 = .ok (.aload_n 0, 1) := by decide +kernel
theorem dX1_clear_36 : decode cX1_clear 36 = .ok (.getfield 24, 3) := by decide +kernel
theorem dX1_clear_39 : decode cX1_clear 39 = .ok (.iload_n 1, 1) := by decide +kernel
theorem dX1_clear_40 : decode cX1_clear 40 = .ok (.aload_n 0, 1) := by decide +kernel
theorem dX1_clear_41 : decode cX1_clear 41 = .ok (.getfield 20, 3) := by decide +kernel
theorem dX1_clear_44 : decode cX1_clear 44 = .ok (.imul, 1) := by decide +kernel
theorem dX1_clear_45 : decode cX1_clear 45 = .ok (.iload_n 2, 1) := by decide +kernel
theorem dX1_clear_46 : decode cX1_clear 46 = .ok (.iadd, 1) := by decide +kernel
theorem dX1_clear_47 : decode cX1_clear 47 = .ok (.iload_n 3, 1) := by decide +kernel
theorem dX1_clear_48 : decode cX1_clear 48 = .ok (.ifCond .eq 7, 3) := by decide +kernel
theorem dX1_clear_51 : decode cX1_clear 51 = .ok (.iconst 0, 1) := by decide +kernel
theorem dX1_clear_52 : decode cX1_clear 52 = .ok (.goto 5, 3) := by decide +kernel
theorem dX1_clear_55 : decode cX1_clear 55 = .ok (.bipush 60, 2) := by decide +kernel
theorem dX1_clear_57 : decode cX1_clear 57 = .ok (.iastore, 1) := by decide +kernel
theorem dX1_clear_58 : decode cX1_clear 58 = .ok (.iinc 2 1, 3) := by decide +kernel
theorem dX1_clear_61 : decode cX1_clear 61 = .ok (.goto (-49), 3) := by decide +kernel
theorem dX1_clear_64 : decode cX1_clear 64 = .ok (.iinc 1 1, 3) := by decide +kernel
theorem dX1_clear_67 : decode cX1_clear 67 = .ok (.goto (-65), 3) := by decide +kernel
theorem dX1_clear_70 : decode cX1_clear 70 = .ok (.return_, 1) := by decide +kernel
theorem dX1_copyFrom_0 : decode cX1_copyFrom 0 = .ok (.aload_n 1, 1) := by decide +kernel
theorem dX1_copyFrom_1 : decode cX1_copyFrom 1 = .ok (.ifnull 32, 3) := by decide +kernel
theorem dX1_copyFrom_4 : decode cX1_copyFrom 4 = .ok (.aload_n 1, 1) := by decide +kernel
theorem dX1_copyFrom_5 : decode cX1_copyFrom 5 = .ok (.getfield 20, 3) := by decide +kernel
theorem dX1_copyFrom_8 : decode cX1_copyFrom 8 = .ok (.aload_n 0, 1) := by decide +kernel
theorem dX1_copyFrom_9 : decode cX1_copyFrom 9 = .ok (.getfield 20, 3) := by decide +kernel
theorem dX1_copyFrom_12 : decode cX1_copyFrom 12 = .ok (.if_icmp .ne 21, 3) := by decide +kernel
theorem dX1_copyFrom_15 : decode cX1_copyFrom 15 = .ok (.aload_n 1, 1) := by decide +kernel
theorem dX1_copyFrom_16 : decode cX1_copyFrom 16 = .ok (.getfield 24, 3) := by decide +kernel
theorem dX1_copyFrom_19 : decode cX1_copyFrom 19 = .ok (.iconst 0, 1) := by decide +kernel
theorem dX1_copyFrom_20 : decode cX1_copyFrom 20 = .ok (.aload_n 0, 1) := by decide +kernel
theorem dX1_copyFrom_21 : decode cX1_copyFrom 21 = .ok (.getfield 24, 3) := by decide +kernel
theorem dX1_copyFrom_24 : decode cX1_copyFrom 24 = .ok (.iconst 0, 1) := by decide +kernel
theorem dX1_copyFrom_25 : decode cX1_copyFrom 25 = .ok (.aload_n 0, 1) := by decide +kernel
theorem dX1_copyFrom_26 : decode cX1_copyFrom 26 = .ok (.getfield 24, 3) := by decide +kernel
theorem dX1_copyFrom_29 : decode cX1_copyFrom 29 = .ok (.arraylength, 1) := by decide +kernel
theorem dX1_copyFrom_30 : decode cX1_copyFrom 30 = .ok (.invokestatic 28, 3) := by decide +kernel
theorem dX1_copyFrom_33 : decode cX1_copyFrom 33 = .ok (.return_, 1) := by decide +kernel
theorem dX1_most_0 : decode cX1_most 0 = .ok (.aload_n 0, 1) := by decide +kernel
theorem dX1_most_1 : decode cX1_most 1 = .ok (.iload_n 1, 1) := by decide +kernel
theorem dX1_most_2 : decode cX1_most 2 = .ok (.invokevirtual 34, 3) := by decide +kernel
theorem dX1_most_5 : decode cX1_most 5 = .ok (.ifCond .eq 27, 3) := by decide +kernel
theorem dX1_most_8 : decode cX1_most 8 = .ok (.aload_n 0, 1) := by decide +kernel
theorem dX1_most_9 : decode cX1_most 9 = .ok (.iload_n 2, 1) := by decide +kernel
theorem dX1_most_10 : decode cX1_most 10 = .ok (.invokevirtual 34, 3) := by decide +kernel
theorem dX1_most_13 : decode cX1_most 13 = .ok (.ifCond .eq 19, 3) := by decide +kernel
theorem dX1_most_16 : decode cX1_most 16 = .ok (.aload_n 0, 1) := by decide +kernel
theorem dX1_most_17 : decode cX1_most 17 = .ok (.getfield 24, 3) := by decide +kernel
theorem dX1_most_20 : decode cX1_most 20 = .ok (.iload_n 1, 1) := by decide +kernel
theorem dX1_most_21 : decode cX1_most 21 = .ok (.aload_n 0, 1) := by decide +kernel
theorem dX1_most_22 : decode cX1_most 22 = .ok (.getfield 20, 3) := by decide +kernel
theorem dX1_most_25 : decode cX1_most 25 = .ok (.imul, 1) := by decide +kernel
theorem dX1_most_26 : decode cX1_most 26 = .ok (.iload_n 2, 1) := by decide +kernel
theorem dX1_most_27 : decode cX1_most 27 = .ok (.iadd, 1) := by decide +kernel
theorem dX1_most_28 : decode cX1_most 28 = .ok (.iaload, 1) := by decide +kernel
theorem dX1_most_29 : decode cX1_most 29 = .ok (.goto 4, 3) := by decide +kernel
theorem dX1_most_32 : decode cX1_most 32 = .ok (.iconst 0, 1) := by decide +kernel
theorem dX1_most_33 : decode cX1_most 33 = .ok (.ireturn, 1) := by decide +kernel
theorem dX1_least_0 : decode cX1_least 0 = .ok (.aload_n 0, 1) := by decide +kernel
theorem dX1_least_1 : decode cX1_least 1 = .ok (.iload_n 1, 1) := by decide +kernel
theorem dX1_least_2 : decode cX1_least 2 = .ok (.iconst 0, 1) := by decide +kernel
theorem dX1_least_3 : decode cX1_least 3 = .ok (.invokevirtual 38, 3) := by decide +kernel
theorem dX1_least_6 : decode cX1_least 6 = .ok (.ineg, 1) := by decide +kernel
theorem dX1_least_7 : decode cX1_least 7 = .ok (.ireturn, 1) := by decide +kernel
theorem dX1_greatest_0 : decode cX1_greatest 0 = .ok (.aload_n 0, 1) := by decide +kernel
theorem dX1_greatest_1 : decode cX1_greatest 1 = .ok (.iconst 0, 1) := by decide +kernel
theorem dX1_greatest_2 : decode cX1_greatest 2 = .ok (.iload_n 1, 1) := by decide +kernel
theorem dX1_greatest_3 : decode cX1_greatest 3 = .ok (.invokevirtual 38, 3) := by decide +kernel
theorem dX1_greatest_6 : decode cX1_greatest 6 = .ok (.ireturn, 1) := by decide +kernel
theorem dX1_hold_0 : decode cX1_hold 0 = .ok (.aload_n 0, 1) := by decide +kernel
theorem dX1_hold_1 : decode cX1_hold 1 = .ok (.iload_n 1, 1) := by decide +kernel
theorem dX1_hold_2 : decode cX1_hold 2 = .ok (.invokevirtual 34, 3) := by decide +kernel
theorem dX1_hold_5 : decode cX1_hold 5 = .ok (.ifCond .eq 17, 3) := by decide +kernel
theorem dX1_hold_8 : decode cX1_hold 8 = .ok (.aload_n 0, 1) := by decide +kernel
theorem dX1_hold_9 : decode cX1_hold 9 = .ok (.iload_n 2, 1) := by decide +kernel
theorem dX1_hold_10 : decode cX1_hold 10 = .ok (.invokevirtual 34, 3) := by decide +kernel
theorem dX1_hold_13 : decode cX1_hold 13 = .ok (.ifCond .eq 9, 3) := by decide +kernel
theorem dX1_hold_16 : decode cX1_hold 16 = .ok (.iload_n 3, 1) := by decide +kernel
theorem dX1_hold_17 : decode cX1_hold 17 = .ok (.iload 4, 2) := by decide +kernel
theorem dX1_hold_19 : decode cX1_hold 19 = .ok (.if_icmp .le 5, 3) := by decide +kernel
theorem dX1_hold_22 : decode cX1_hold 22 = .ok (.iconst 0, 1) := by decide +kernel
theorem dX1_hold_23 : decode cX1_hold 23 = .ok (.ireturn, 1) := by decide +kernel
theorem dX1_hold_24 : decode cX1_hold 24 = .ok (.iload 4, 2) := by decide +kernel
theorem dX1_hold_26 : decode cX1_hold 26 = .ok (.aload_n 0, 1) := by decide +kernel
theorem dX1_hold_27 : decode cX1_hold 27 = .ok (.getfield 24, 3) := by decide +kernel
theorem dX1_hold_30 : decode cX1_hold 30 = .ok (.iload_n 2, 1) := by decide +kernel
theorem dX1_hold_31 : decode cX1_hold 31 = .ok (.aload_n 0, 1) := by decide +kernel
theorem dX1_hold_32 : decode cX1_hold 32 = .ok (.getfield 20, 3) := by decide +kernel
theorem dX1_hold_35 : decode cX1_hold 35 = .ok (.imul, 1) := by decide +kernel
theorem dX1_hold_36 : decode cX1_hold 36 = .ok (.iload_n 1, 1) := by decide +kernel
theorem dX1_hold_37 : decode cX1_hold 37 = .ok (.iadd, 1) := by decide +kernel
theorem dX1_hold_38 : decode cX1_hold 38 = .ok (.iaload, 1) := by decide +kernel
theorem dX1_hold_39 : decode cX1_hold 39 = .ok (.ineg, 1) := by decide +kernel
theorem dX1_hold_40 : decode cX1_hold 40 = .ok (.if_icmp .lt 20, 3) := by decide +kernel
theorem dX1_hold_43 : decode cX1_hold 43 = .ok (.iload_n 3, 1) := by decide +kernel
theorem dX1_hold_44 : decode cX1_hold 44 = .ok (.aload_n 0, 1) := by decide +kernel
theorem dX1_hold_45 : decode cX1_hold 45 = .ok (.getfield 24, 3) := by decide +kernel
theorem dX1_hold_48 : decode cX1_hold 48 = .ok (.iload_n 1, 1) := by decide +kernel
theorem dX1_hold_49 : decode cX1_hold 49 = .ok (.aload_n 0, 1) := by decide +kernel
theorem dX1_hold_50 : decode cX1_hold 50 = .ok (.getfield 20, 3) := by decide +kernel
theorem dX1_hold_53 : decode cX1_hold 53 = .ok (.imul, 1) := by decide +kernel
theorem dX1_hold_54 : decode cX1_hold 54 = .ok (.iload_n 2, 1) := by decide +kernel
theorem dX1_hold_55 : decode cX1_hold 55 = .ok (.iadd, 1) := by decide +kernel
theorem dX1_hold_56 : decode cX1_hold 56 = .ok (.iaload, 1) := by decide +kernel
theorem dX1_hold_57 : decode cX1_hold 57 = .ok (.if_icmp .le 5, 3) := by decide +kernel
theorem dX1_hold_60 : decode cX1_hold 60 = .ok (.iconst 0, 1) := by decide +kernel
theorem dX1_hold_61 : decode cX1_hold 61 = .ok (.ireturn, 1) := by decide +kernel
theorem dX1_hold_62 : decode cX1_hold 62 = .ok (.aload_n 0, 1) := by decide +kernel
theorem dX1_hold_63 : decode cX1_hold 63 = .ok (.iload_n 1, 1) := by decide +kernel
theorem dX1_hold_64 : decode cX1_hold 64 = .ok (.iload_n 2, 1) := by decide +kernel
theorem dX1_hold_65 : decode cX1_hold 65 = .ok (.iload 4, 2) := by decide +kernel
theorem dX1_hold_67 : decode cX1_hold 67 = .ok (.invokevirtual 41, 3) := by decide +kernel
theorem dX1_hold_70 : decode cX1_hold 70 = .ok (.aload_n 0, 1) := by decide +kernel
theorem dX1_hold_71 : decode cX1_hold 71 = .ok (.iload_n 2, 1) := by decide +kernel
theorem dX1_hold_72 : decode cX1_hold 72 = .ok (.iload_n 1, 1) := by decide +kernel
theorem dX1_hold_73 : decode cX1_hold 73 = .ok (.iload_n 3, 1) := by decide +kernel
theorem dX1_hold_74 : decode cX1_hold 74 = .ok (.ineg, 1) := by decide +kernel
theorem dX1_hold_75 : decode cX1_hold 75 = .ok (.invokevirtual 41, 3) := by decide +kernel
theorem dX1_hold_78 : decode cX1_hold 78 = .ok (.iconst 1, 1) := by decide +kernel
theorem dX1_hold_79 : decode cX1_hold 79 = .ok (.ireturn, 1) := by decide +kernel
theorem dX1_narrow_0 : decode cX1_narrow 0 = .ok (.iload_n 3, 1) := by decide +kernel
theorem dX1_narrow_1 : decode cX1_narrow 1 = .ok (.aload_n 0, 1) := by decide +kernel
theorem dX1_narrow_2 : decode cX1_narrow 2 = .ok (.getfield 24, 3) := by decide +kernel
theorem dX1_narrow_5 : decode cX1_narrow 5 = .ok (.iload_n 1, 1) := by decide +kernel
theorem dX1_narrow_6 : decode cX1_narrow 6 = .ok (.aload_n 0, 1) := by decide +kernel
theorem dX1_narrow_7 : decode cX1_narrow 7 = .ok (.getfield 20, 3) := by decide +kernel
theorem dX1_narrow_10 : decode cX1_narrow 10 = .ok (.imul, 1) := by decide +kernel
theorem dX1_narrow_11 : decode cX1_narrow 11 = .ok (.iload_n 2, 1) := by decide +kernel
theorem dX1_narrow_12 : decode cX1_narrow 12 = .ok (.iadd, 1) := by decide +kernel
theorem dX1_narrow_13 : decode cX1_narrow 13 = .ok (.iaload, 1) := by decide +kernel
theorem dX1_narrow_14 : decode cX1_narrow 14 = .ok (.if_icmp .lt 4, 3) := by decide +kernel
theorem dX1_narrow_17 : decode cX1_narrow 17 = .ok (.return_, 1) := by decide +kernel
theorem dX1_narrow_18 : decode cX1_narrow 18 = .ok (.iconst 0, 1) := by decide +kernel
theorem dX1_narrow_19 : decode cX1_narrow 19 = .ok (.istore 4, 2) := by decide +kernel
theorem dX1_narrow_21 : decode cX1_narrow 21 = .ok (.iload 4, 2) := by decide +kernel
theorem dX1_narrow_23 : decode cX1_narrow 23 = .ok (.aload_n 0, 1) := by decide +kernel
theorem dX1_narrow_24 : decode cX1_narrow 24 = .ok (.getfield 20, 3) := by decide +kernel
theorem dX1_narrow_27 : decode cX1_narrow 27 = .ok (.if_icmp .ge 121, 3) := by decide +kernel
theorem dX1_narrow_30 : decode cX1_narrow 30 = .ok (.aload_n 0, 1) := by decide +kernel
theorem dX1_narrow_31 : decode cX1_narrow 31 = .ok (.getfield 24, 3) := by decide +kernel
theorem dX1_narrow_34 : decode cX1_narrow 34 = .ok (.iload 4, 2) := by decide +kernel
theorem dX1_narrow_36 : decode cX1_narrow 36 = .ok (.aload_n 0, 1) := by decide +kernel
theorem dX1_narrow_37 : decode cX1_narrow 37 = .ok (.getfield 20, 3) := by decide +kernel
theorem dX1_narrow_40 : decode cX1_narrow 40 = .ok (.imul, 1) := by decide +kernel
theorem dX1_narrow_41 : decode cX1_narrow 41 = .ok (.iload_n 1, 1) := by decide +kernel
theorem dX1_narrow_42 : decode cX1_narrow 42 = .ok (.iadd, 1) := by decide +kernel
theorem dX1_narrow_43 : decode cX1_narrow 43 = .ok (.iaload, 1) := by decide +kernel
theorem dX1_narrow_44 : decode cX1_narrow 44 = .ok (.iload_n 3, 1) := by decide +kernel
theorem dX1_narrow_45 : decode cX1_narrow 45 = .ok (.iadd, 1) := by decide +kernel
theorem dX1_narrow_46 : decode cX1_narrow 46 = .ok (.istore 5, 2) := by decide +kernel
theorem dX1_narrow_48 : decode cX1_narrow 48 = .ok (.iload 5, 2) := by decide +kernel
theorem dX1_narrow_50 : decode cX1_narrow 50 = .ok (.aload_n 0, 1) := by decide +kernel
theorem dX1_narrow_51 : decode cX1_narrow 51 = .ok (.getfield 24, 3) := by decide +kernel
theorem dX1_narrow_54 : decode cX1_narrow 54 = .ok (.iload 4, 2) := by decide +kernel
theorem dX1_narrow_56 : decode cX1_narrow 56 = .ok (.aload_n 0, 1) := by decide +kernel
theorem dX1_narrow_57 : decode cX1_narrow 57 = .ok (.getfield 20, 3) := by decide +kernel
theorem dX1_narrow_60 : decode cX1_narrow 60 = .ok (.imul, 1) := by decide +kernel
theorem dX1_narrow_61 : decode cX1_narrow 61 = .ok (.iload_n 2, 1) := by decide +kernel
theorem dX1_narrow_62 : decode cX1_narrow 62 = .ok (.iadd, 1) := by decide +kernel
theorem dX1_narrow_63 : decode cX1_narrow 63 = .ok (.iaload, 1) := by decide +kernel
theorem dX1_narrow_64 : decode cX1_narrow 64 = .ok (.if_icmp .lt 6, 3) := by decide +kernel
theorem dX1_narrow_67 : decode cX1_narrow 67 = .ok (.goto 75, 3) := by decide +kernel
theorem dX1_narrow_70 : decode cX1_narrow 70 = .ok (.iconst 0, 1) := by decide +kernel
theorem dX1_narrow_71 : decode cX1_narrow 71 = .ok (.istore 6, 2) := by decide +kernel
theorem dX1_narrow_73 : decode cX1_narrow 73 = .ok (.iload 6, 2) := by decide +kernel
theorem dX1_narrow_75 : decode cX1_narrow 75 = .ok (.aload_n 0, 1) := by decide +kernel
theorem dX1_narrow_76 : decode cX1_narrow 76 = .ok (.getfield 20, 3) := by decide +kernel
theorem dX1_narrow_79 : decode cX1_narrow 79 = .ok (.if_icmp .ge 63, 3) := by decide +kernel
theorem dX1_narrow_82 : decode cX1_narrow 82 = .ok (.iload 5, 2) := by decide +kernel
theorem dX1_narrow_84 : decode cX1_narrow 84 = .ok (.aload_n 0, 1) := by decide +kernel
theorem dX1_narrow_85 : decode cX1_narrow 85 = .ok (.getfield 24, 3) := by decide +kernel
theorem dX1_narrow_88 : decode cX1_narrow 88 = .ok (.iload_n 2, 1) := by decide +kernel
theorem dX1_narrow_89 : decode cX1_narrow 89 = .ok (.aload_n 0, 1) := by decide +kernel
theorem dX1_narrow_90 : decode cX1_narrow 90 = .ok (.getfield 20, 3) := by decide +kernel
theorem dX1_narrow_93 : decode cX1_narrow 93 = .ok (.imul, 1) := by decide +kernel
theorem dX1_narrow_94 : decode cX1_narrow 94 = .ok (.iload 6, 2) := by decide +kernel
theorem dX1_narrow_96 : decode cX1_narrow 96 = .ok (.iadd, 1) := by decide +kernel
theorem dX1_narrow_97 : decode cX1_narrow 97 = .ok (.iaload, 1) := by decide +kernel
theorem dX1_narrow_98 : decode cX1_narrow 98 = .ok (.iadd, 1) := by decide +kernel
theorem dX1_narrow_99 : decode cX1_narrow 99 = .ok (.istore 7, 2) := by decide +kernel
theorem dX1_narrow_101 : decode cX1_narrow 101 = .ok (.aload_n 0, 1) := by decide +kernel
theorem dX1_narrow_102 : decode cX1_narrow 102 = .ok (.getfield 24, 3) := by decide +kernel
theorem dX1_narrow_105 : decode cX1_narrow 105 = .ok (.iload 4, 2) := by decide +kernel
theorem dX1_narrow_107 : decode cX1_narrow 107 = .ok (.aload_n 0, 1) := by decide +kernel
theorem dX1_narrow_108 : decode cX1_narrow 108 = .ok (.getfield 20, 3) := by decide +kernel
theorem dX1_narrow_111 : decode cX1_narrow 111 = .ok (.imul, 1) := by decide +kernel
theorem dX1_narrow_112 : decode cX1_narrow 112 = .ok (.iload 6, 2) := by decide +kernel
theorem dX1_narrow_114 : decode cX1_narrow 114 = .ok (.iadd, 1) := by decide +kernel
theorem dX1_narrow_115 : decode cX1_narrow 115 = .ok (.aload_n 0, 1) := by decide +kernel
theorem dX1_narrow_116 : decode cX1_narrow 116 = .ok (.getfield 24, 3) := by decide +kernel
theorem dX1_narrow_119 : decode cX1_narrow 119 = .ok (.iload 4, 2) := by decide +kernel
theorem dX1_narrow_121 : decode cX1_narrow 121 = .ok (.aload_n 0, 1) := by decide +kernel
theorem dX1_narrow_122 : decode cX1_narrow 122 = .ok (.getfield 20, 3) := by decide +kernel
theorem dX1_narrow_125 : decode cX1_narrow 125 = .ok (.imul, 1) := by decide +kernel
theorem dX1_narrow_126 : decode cX1_narrow 126 = .ok (.iload 6, 2) := by decide +kernel
theorem dX1_narrow_128 : decode cX1_narrow 128 = .ok (.iadd, 1) := by decide +kernel
theorem dX1_narrow_129 : decode cX1_narrow 129 = .ok (.iaload, 1) := by decide +kernel
theorem dX1_narrow_130 : decode cX1_narrow 130 = .ok (.iload 7, 2) := by decide +kernel
theorem dX1_narrow_132 : decode cX1_narrow 132 = .ok (.invokestatic 11, 3) := by decide +kernel
theorem dX1_narrow_135 : decode cX1_narrow 135 = .ok (.iastore, 1) := by decide +kernel
theorem dX1_narrow_136 : decode cX1_narrow 136 = .ok (.iinc 6 1, 3) := by decide +kernel
theorem dX1_narrow_139 : decode cX1_narrow 139 = .ok (.goto (-66), 3) := by decide +kernel
theorem dX1_narrow_142 : decode cX1_narrow 142 = .ok (.iinc 4 1, 3) := by decide +kernel
theorem dX1_narrow_145 : decode cX1_narrow 145 = .ok (.goto (-124), 3) := by decide +kernel
theorem dX1_narrow_148 : decode cX1_narrow 148 = .ok (.return_, 1) := by decide +kernel
theorem dX1_openSum_0 : decode cX1_openSum 0 = .ok (.iconst 0, 1) := by decide +kernel
theorem dX1_openSum_1 : decode cX1_openSum 1 = .ok (.istore_n 1, 1) := by decide +kernel
theorem dX1_openSum_2 : decode cX1_openSum 2 = .ok (.iconst 1, 1) := by decide +kernel
theorem dX1_openSum_3 : decode cX1_openSum 3 = .ok (.istore_n 2, 1) := by decide +kernel
theorem dX1_openSum_4 : decode cX1_openSum 4 = .ok (.iload_n 2, 1) := by decide +kernel
theorem dX1_openSum_5 : decode cX1_openSum 5 = .ok (.aload_n 0, 1) := by decide +kernel
theorem dX1_openSum_6 : decode cX1_openSum 6 = .ok (.getfield 20, 3) := by decide +kernel
theorem dX1_openSum_9 : decode cX1_openSum 9 = .ok (.if_icmp .ge 23, 3) := by decide +kernel
theorem dX1_openSum_12 : decode cX1_openSum 12 = .ok (.iload_n 1, 1) := by decide +kernel
theorem dX1_openSum_13 : decode cX1_openSum 13 = .ok (.aload_n 0, 1) := by decide +kernel
theorem dX1_openSum_14 : decode cX1_openSum 14 = .ok (.iload_n 2, 1) := by decide +kernel
theorem dX1_openSum_15 : decode cX1_openSum 15 = .ok (.invokevirtual 45, 3) := by decide +kernel
theorem dX1_openSum_18 : decode cX1_openSum 18 = .ok (.aload_n 0, 1) := by decide +kernel
theorem dX1_openSum_19 : decode cX1_openSum 19 = .ok (.iload_n 2, 1) := by decide +kernel
theorem dX1_openSum_20 : decode cX1_openSum 20 = .ok (.invokevirtual 49, 3) := by decide +kernel
theorem dX1_openSum_23 : decode cX1_openSum 23 = .ok (.isub, 1) := by decide +kernel
theorem dX1_openSum_24 : decode cX1_openSum 24 = .ok (.iadd, 1) := by decide +kernel
theorem dX1_openSum_25 : decode cX1_openSum 25 = .ok (.istore_n 1, 1) := by decide +kernel
theorem dX1_openSum_26 : decode cX1_openSum 26 = .ok (.iinc 2 1, 3) := by decide +kernel
theorem dX1_openSum_29 : decode cX1_openSum 29 = .ok (.goto (-25), 3) := by decide +kernel
theorem dX1_openSum_32 : decode cX1_openSum 32 = .ok (.iload_n 1, 1) := by decide +kernel
theorem dX1_openSum_33 : decode cX1_openSum 33 = .ok (.ireturn, 1) := by decide +kernel
theorem dX1_openSumAfterBore_0 : decode cX1_openSumAfterBore 0 = .ok (.aload_n 0, 1) := by decide +kernel
theorem dX1_openSumAfterBore_1 : decode cX1_openSumAfterBore 1 = .ok (.iload_n 1, 1) := by decide +kernel
theorem dX1_openSumAfterBore_2 : decode cX1_openSumAfterBore 2 = .ok (.invokevirtual 34, 3) := by decide +kernel
theorem dX1_openSumAfterBore_5 : decode cX1_openSumAfterBore 5 = .ok (.ifCond .ne 5, 3) := by decide +kernel
theorem dX1_openSumAfterBore_8 : decode cX1_openSumAfterBore 8 = .ok (.iconst 0, 1) := by decide +kernel
theorem dX1_openSumAfterBore_9 : decode cX1_openSumAfterBore 9 = .ok (.ireturn, 1) := by decide +kernel
theorem dX1_openSumAfterBore_10 : decode cX1_openSumAfterBore 10 = .ok (.iconst 0, 1) := by decide +kernel
theorem dX1_openSumAfterBore_11 : decode cX1_openSumAfterBore 11 = .ok (.istore_n 3, 1) := by decide +kernel
theorem dX1_openSumAfterBore_12 : decode cX1_openSumAfterBore 12 = .ok (.iconst 1, 1) := by decide +kernel
theorem dX1_openSumAfterBore_13 : decode cX1_openSumAfterBore 13 = .ok (.istore 4, 2) := by decide +kernel
theorem dX1_openSumAfterBore_15 : decode cX1_openSumAfterBore 15 = .ok (.iload 4, 2) := by decide +kernel
theorem dX1_openSumAfterBore_17 : decode cX1_openSumAfterBore 17 = .ok (.aload_n 0, 1) := by decide +kernel
theorem dX1_openSumAfterBore_18 : decode cX1_openSumAfterBore 18 = .ok (.getfield 20, 3) := by decide +kernel
theorem dX1_openSumAfterBore_21 : decode cX1_openSumAfterBore 21 = .ok (.if_icmp .ge 79, 3) := by decide +kernel
theorem dX1_openSumAfterBore_24 : decode cX1_openSumAfterBore 24 = .ok (.aload_n 0, 1) := by decide +kernel
theorem dX1_openSumAfterBore_25 : decode cX1_openSumAfterBore 25 = .ok (.getfield 24, 3) := by decide +kernel
theorem dX1_openSumAfterBore_28 : decode cX1_openSumAfterBore 28 = .ok (.iload 4, 2) := by decide +kernel
theorem dX1_openSumAfterBore_30 : decode cX1_openSumAfterBore 30 = .ok (.iaload, 1) := by decide +kernel
theorem dX1_openSumAfterBore_31 : decode cX1_openSumAfterBore 31 = .ok (.iload_n 2, 1) := by decide +kernel
theorem dX1_openSumAfterBore_32 : decode cX1_openSumAfterBore 32 = .ok (.aload_n 0, 1) := by decide +kernel
theorem dX1_openSumAfterBore_33 : decode cX1_openSumAfterBore 33 = .ok (.getfield 24, 3) := by decide +kernel
theorem dX1_openSumAfterBore_36 : decode cX1_openSumAfterBore 36 = .ok (.iload_n 1, 1) := by decide +kernel
theorem dX1_openSumAfterBore_37 : decode cX1_openSumAfterBore 37 = .ok (.aload_n 0, 1) := by decide +kernel
theorem dX1_openSumAfterBore_38 : decode cX1_openSumAfterBore 38 = .ok (.getfield 20, 3) := by decide +kernel
theorem dX1_openSumAfterBore_41 : decode cX1_openSumAfterBore 41 = .ok (.imul, 1) := by decide +kernel
theorem dX1_openSumAfterBore_42 : decode cX1_openSumAfterBore 42 = .ok (.iload 4, 2) := by decide +kernel
theorem dX1_openSumAfterBore_44 : decode cX1_openSumAfterBore 44 = .ok (.iadd, 1) := by decide +kernel
theorem dX1_openSumAfterBore_45 : decode cX1_openSumAfterBore 45 = .ok (.iaload, 1) := by decide +kernel
theorem dX1_openSumAfterBore_46 : decode cX1_openSumAfterBore 46 = .ok (.iadd, 1) := by decide +kernel
theorem dX1_openSumAfterBore_47 : decode cX1_openSumAfterBore 47 = .ok (.invokestatic 11, 3) := by decide +kernel
theorem dX1_openSumAfterBore_50 : decode cX1_openSumAfterBore 50 = .ok (.istore 5, 2) := by decide +kernel
theorem dX1_openSumAfterBore_52 : decode cX1_openSumAfterBore 52 = .ok (.aload_n 0, 1) := by decide +kernel
theorem dX1_openSumAfterBore_53 : decode cX1_openSumAfterBore 53 = .ok (.getfield 24, 3) := by decide +kernel
theorem dX1_openSumAfterBore_56 : decode cX1_openSumAfterBore 56 = .ok (.iload 4, 2) := by decide +kernel
theorem dX1_openSumAfterBore_58 : decode cX1_openSumAfterBore 58 = .ok (.aload_n 0, 1) := by decide +kernel
theorem dX1_openSumAfterBore_59 : decode cX1_openSumAfterBore 59 = .ok (.getfield 20, 3) := by decide +kernel
theorem dX1_openSumAfterBore_62 : decode cX1_openSumAfterBore 62 = .ok (.imul, 1) := by decide +kernel
theorem dX1_openSumAfterBore_63 : decode cX1_openSumAfterBore 63 = .ok (.iaload, 1) := by decide +kernel
theorem dX1_openSumAfterBore_64 : decode cX1_openSumAfterBore 64 = .ok (.ineg, 1) := by decide +kernel
theorem dX1_openSumAfterBore_65 : decode cX1_openSumAfterBore 65 = .ok (.iload_n 2, 1) := by decide +kernel
theorem dX1_openSumAfterBore_66 : decode cX1_openSumAfterBore 66 = .ok (.aload_n 0, 1) := by decide +kernel
theorem dX1_openSumAfterBore_67 : decode cX1_openSumAfterBore 67 = .ok (.getfield 24, 3) := by decide +kernel
theorem dX1_openSumAfterBore_70 : decode cX1_openSumAfterBore 70 = .ok (.iload 4, 2) := by decide +kernel
theorem dX1_openSumAfterBore_72 : decode cX1_openSumAfterBore 72 = .ok (.aload_n 0, 1) := by decide +kernel
theorem dX1_openSumAfterBore_73 : decode cX1_openSumAfterBore 73 = .ok (.getfield 20, 3) := by decide +kernel
theorem dX1_openSumAfterBore_76 : decode cX1_openSumAfterBore 76 = .ok (.imul, 1) := by decide +kernel
theorem dX1_openSumAfterBore_77 : decode cX1_openSumAfterBore 77 = .ok (.iload_n 1, 1) := by decide +kernel
theorem dX1_openSumAfterBore_78 : decode cX1_openSumAfterBore 78 = .ok (.iadd, 1) := by decide +kernel
theorem dX1_openSumAfterBore_79 : decode cX1_openSumAfterBore 79 = .ok (.iaload, 1) := by decide +kernel
theorem dX1_openSumAfterBore_80 : decode cX1_openSumAfterBore 80 = .ok (.isub, 1) := by decide +kernel
theorem dX1_openSumAfterBore_81 : decode cX1_openSumAfterBore 81 = .ok (.invokestatic 17, 3) := by decide +kernel
theorem dX1_openSumAfterBore_84 : decode cX1_openSumAfterBore 84 = .ok (.istore 6, 2) := by decide +kernel
theorem dX1_openSumAfterBore_86 : decode cX1_openSumAfterBore 86 = .ok (.iload_n 3, 1) := by decide +kernel
theorem dX1_openSumAfterBore_87 : decode cX1_openSumAfterBore 87 = .ok (.iload 5, 2) := by decide +kernel
theorem dX1_openSumAfterBore_89 : decode cX1_openSumAfterBore 89 = .ok (.iload 6, 2) := by decide +kernel
theorem dX1_openSumAfterBore_91 : decode cX1_openSumAfterBore 91 = .ok (.isub, 1) := by decide +kernel
theorem dX1_openSumAfterBore_92 : decode cX1_openSumAfterBore 92 = .ok (.iadd, 1) := by decide +kernel
theorem dX1_openSumAfterBore_93 : decode cX1_openSumAfterBore 93 = .ok (.istore_n 3, 1) := by decide +kernel
theorem dX1_openSumAfterBore_94 : decode cX1_openSumAfterBore 94 = .ok (.iinc 4 1, 3) := by decide +kernel
theorem dX1_openSumAfterBore_97 : decode cX1_openSumAfterBore 97 = .ok (.goto (-82), 3) := by decide +kernel
theorem dX1_openSumAfterBore_100 : decode cX1_openSumAfterBore 100 = .ok (.iload_n 3, 1) := by decide +kernel
theorem dX1_openSumAfterBore_101 : decode cX1_openSumAfterBore 101 = .ok (.ireturn, 1) := by decide +kernel
theorem dX1_isPlace_0 : decode cX1_isPlace 0 = .ok (.iload_n 1, 1) := by decide +kernel
theorem dX1_isPlace_1 : decode cX1_isPlace 1 = .ok (.ifCond .lt 15, 3) := by decide +kernel
theorem dX1_isPlace_4 : decode cX1_isPlace 4 = .ok (.iload_n 1, 1) := by decide +kernel
theorem dX1_isPlace_5 : decode cX1_isPlace 5 = .ok (.aload_n 0, 1) := by decide +kernel
theorem dX1_isPlace_6 : decode cX1_isPlace 6 = .ok (.getfield 20, 3) := by decide +kernel
theorem dX1_isPlace_9 : decode cX1_isPlace 9 = .ok (.if_icmp .ge 7, 3) := by decide +kernel
theorem dX1_isPlace_12 : decode cX1_isPlace 12 = .ok (.iconst 1, 1) := by decide +kernel
theorem dX1_isPlace_13 : decode cX1_isPlace 13 = .ok (.goto 4, 3) := by decide +kernel
theorem dX1_isPlace_16 : decode cX1_isPlace 16 = .ok (.iconst 0, 1) := by decide +kernel
theorem dX1_isPlace_17 : decode cX1_isPlace 17 = .ok (.ireturn, 1) := by decide +kernel
theorem dX2_init_0 : decode cX2_init 0 = .ok (.aload_n 0, 1) := by decide +kernel
theorem dX2_init_1 : decode cX2_init 1 = .ok (.invokespecial 3, 3) := by decide +kernel
theorem dX2_init_4 : decode cX2_init 4 = .ok (.aload_n 0, 1) := by decide +kernel
theorem dX2_init_5 : decode cX2_init 5 = .ok (.iload_n 1, 1) := by decide +kernel
theorem dX2_init_6 : decode cX2_init 6 = .ok (.iconst 1, 1) := by decide +kernel
theorem dX2_init_7 : decode cX2_init 7 = .ok (.invokestatic 9, 3) := by decide +kernel
theorem dX2_init_10 : decode cX2_init 10 = .ok (.putfield 15, 3) := by decide +kernel
theorem dX2_init_13 : decode cX2_init 13 = .ok (.aload_n 0, 1) := by decide +kernel
theorem dX2_init_14 : decode cX2_init 14 = .ok (.iload_n 2, 1) := by decide +kernel
theorem dX2_init_15 : decode cX2_init 15 = .ok (.iconst 1, 1) := by decide +kernel
theorem dX2_init_16 : decode cX2_init 16 = .ok (.invokestatic 9, 3) := by decide +kernel
theorem dX2_init_19 : decode cX2_init 19 = .ok (.putfield 21, 3) := by decide +kernel
theorem dX2_init_22 : decode cX2_init 22 = .ok (.aload_n 0, 1) := by decide +kernel
theorem dX2_init_23 : decode cX2_init 23 = .ok (.aload_n 0, 1) := by decide +kernel
theorem dX2_init_24 : decode cX2_init 24 = .ok (.getfield 21, 3) := by decide +kernel
theorem dX2_init_27 : decode cX2_init 27 = .ok (.newarray .int, 2) := by decide +kernel
theorem dX2_init_29 : decode cX2_init 29 = .ok (.putfield 24, 3) := by decide +kernel
theorem dX2_init_32 : decode cX2_init 32 = .ok (.aload_n 0, 1) := by decide +kernel
theorem dX2_init_33 : decode cX2_init 33 = .ok (.aload_n 0, 1) := by decide +kernel
theorem dX2_init_34 : decode cX2_init 34 = .ok (.getfield 21, 3) := by decide +kernel
theorem dX2_init_37 : decode cX2_init 37 = .ok (.newarray .int, 2) := by decide +kernel
theorem dX2_init_39 : decode cX2_init 39 = .ok (.putfield 28, 3) := by decide +kernel
theorem dX2_init_42 : decode cX2_init 42 = .ok (.aload_n 0, 1) := by decide +kernel
theorem dX2_init_43 : decode cX2_init 43 = .ok (.aload_n 0, 1) := by decide +kernel
theorem dX2_init_44 : decode cX2_init 44 = .ok (.getfield 21, 3) := by decide +kernel
theorem dX2_init_47 : decode cX2_init 47 = .ok (.newarray .int, 2) := by decide +kernel
theorem dX2_init_49 : decode cX2_init 49 = .ok (.putfield 31, 3) := by decide +kernel
theorem dX2_init_52 : decode cX2_init 52 = .ok (.iconst 0, 1) := by decide +kernel
theorem dX2_init_53 : decode cX2_init 53 = .ok (.istore_n 3, 1) := by decide +kernel
