theorem dX0_init_0 : decode cX0_init 0 = .ok (.aload_n 0, 1) := by decide +kernel
theorem dX0_init_1 : decode cX0_init 1 = .ok (.invokespecial 3, 3) := by decide +kernel
theorem dX0_init_4 : decode cX0_init 4 = .ok (.aload_n 0, 1) := by decide +kernel
theorem dX0_init_5 : decode cX0_init 5 = .ok (.bipush 9, 2) := by decide +kernel
theorem dX0_init_7 : decode cX0_init 7 = .ok (.anewarray 9, 3) := by decide +kernel
theorem dX0_init_10 : decode cX0_init 10 = .ok (.putfield 11, 3) := by decide +kernel
theorem dX0_init_13 : decode cX0_init 13 = .ok (.iconst 0, 1) := by decide +kernel
theorem dX0_init_14 : decode cX0_init 14 = .ok (.istore_n 1, 1) := by decide +kernel
theorem dX0_init_15 : decode cX0_init 15 = .ok (.iload_n 1, 1) := by decide +kernel
theorem dX0_init_16 : decode cX0_init 16 = .ok (.bipush 8, 2) := by decide +kernel
theorem dX0_init_18 : decode cX0_init 18 = .ok (.if_icmp .gt 22, 3) := by decide +kernel
theorem dX0_init_21 : decode cX0_init 21 = .ok (.aload_n 0, 1) := by decide +kernel
theorem dX0_init_22 : decode cX0_init 22 = .ok (.getfield 11, 3) := by decide +kernel
theorem dX0_init_25 : decode cX0_init 25 = .ok (.iload_n 1, 1) := by decide +kernel
theorem dX0_init_26 : decode cX0_init 26 = .ok (.new 9, 3) := by decide +kernel
theorem dX0_init_29 : decode cX0_init 29 = .ok (.dup, 1) := by decide +kernel
theorem dX0_init_30 : decode cX0_init 30 = .ok (.invokespecial 17, 3) := by decide +kernel
theorem dX0_init_33 : decode cX0_init 33 = .ok (.aastore, 1) := by decide +kernel
theorem dX0_init_34 : decode cX0_init 34 = .ok (.iinc 1 1, 3) := by decide +kernel
theorem dX0_init_37 : decode cX0_init 37 = .ok (.goto (-22), 3) := by decide +kernel
theorem dX0_init_40 : decode cX0_init 40 = .ok (.aload_n 0, 1) := by decide +kernel
theorem dX0_init_41 : decode cX0_init 41 = .ok (.bipush 10, 2) := by decide +kernel
theorem dX0_init_43 : decode cX0_init 43 = .ok (.newarray .int, 2) := by decide +kernel
theorem dX0_init_45 : decode cX0_init 45 = .ok (.putfield 18, 3) := by decide +kernel
theorem dX0_init_48 : decode cX0_init 48 = .ok (.aload_n 0, 1) := by decide +kernel
theorem dX0_init_49 : decode cX0_init 49 = .ok (.bipush 10, 2) := by decide +kernel
theorem dX0_init_51 : decode cX0_init 51 = .ok (.newarray .int, 2) := by decide +kernel
theorem dX0_init_53 : decode cX0_init 53 = .ok (.putfield 22, 3) := by decide +kernel
theorem dX0_init_56 : decode cX0_init 56 = .ok (.return_, 1) := by decide +kernel
theorem dX0_imageAt_0 : decode cX0_imageAt 0 = .ok (.aload_n 0, 1) := by decide +kernel
theorem dX0_imageAt_1 : decode cX0_imageAt 1 = .ok (.getfield 11, 3) := by decide +kernel
theorem dX0_imageAt_4 : decode cX0_imageAt 4 = .ok (.iload_n 1, 1) := by decide +kernel
theorem dX0_imageAt_5 : decode cX0_imageAt 5 = .ok (.ifCond .lt 13, 3) := by decide +kernel
theorem dX0_imageAt_8 : decode cX0_imageAt 8 = .ok (.iload_n 1, 1) := by decide +kernel
theorem dX0_imageAt_9 : decode cX0_imageAt 9 = .ok (.bipush 8, 2) := by decide +kernel
theorem dX0_imageAt_11 : decode cX0_imageAt 11 = .ok (.if_icmp .gt 7, 3) := by decide +kernel
theorem dX0_imageAt_14 : decode cX0_imageAt 14 = .ok (.iload_n 1, 1) := by decide +kernel
theorem dX0_imageAt_15 : decode cX0_imageAt 15 = .ok (.goto 5, 3) := by decide +kernel
theorem dX0_imageAt_18 : decode cX0_imageAt 18 = .ok (.bipush 8, 2) := by decide +kernel
theorem dX0_imageAt_20 : decode cX0_imageAt 20 = .ok (.aaload, 1) := by decide +kernel
theorem dX0_imageAt_21 : decode cX0_imageAt 21 = .ok (.areturn, 1) := by decide +kernel
theorem dX0_reach_0 : decode cX0_reach 0 = .ok (.iconst 0, 1) := by decide +kernel
theorem dX0_reach_1 : decode cX0_reach 1 = .ok (.istore_n 3, 1) := by decide +kernel
theorem dX0_reach_2 : decode cX0_reach 2 = .ok (.iload_n 3, 1) := by decide +kernel
theorem dX0_reach_3 : decode cX0_reach 3 = .ok (.bipush 10, 2) := by decide +kernel
theorem dX0_reach_5 : decode cX0_reach 5 = .ok (.if_icmp .ge 16, 3) := by decide +kernel
theorem dX0_reach_8 : decode cX0_reach 8 = .ok (.aload_n 0, 1) := by decide +kernel
theorem dX0_reach_9 : decode cX0_reach 9 = .ok (.getfield 22, 3) := by decide +kernel
theorem dX0_reach_12 : decode cX0_reach 12 = .ok (.iload_n 3, 1) := by decide +kernel
theorem dX0_reach_13 : decode cX0_reach 13 = .ok (.iconst (-1), 1) := by decide +kernel
theorem dX0_reach_14 : decode cX0_reach 14 = .ok (.iastore, 1) := by decide +kernel
theorem dX0_reach_15 : decode cX0_reach 15 = .ok (.iinc 3 1, 3) := by decide +kernel
theorem dX0_reach_18 : decode cX0_reach 18 = .ok (.goto (-16), 3) := by decide +kernel
theorem dX0_reach_21 : decode cX0_reach 21 = .ok (.aload_n 0, 1) := by decide +kernel
theorem dX0_reach_22 : decode cX0_reach 22 = .ok (.iconst 0, 1) := by decide +kernel
theorem dX0_reach_23 : decode cX0_reach 23 = .ok (.putfield 25, 3) := by decide +kernel
theorem dX0_reach_26 : decode cX0_reach 26 = .ok (.aload_n 0, 1) := by decide +kernel
theorem dX0_reach_27 : decode cX0_reach 27 = .ok (.iload_n 2, 1) := by decide +kernel
theorem dX0_reach_28 : decode cX0_reach 28 = .ok (.invokevirtual 29, 3) := by decide +kernel
theorem dX0_reach_31 : decode cX0_reach 31 = .ok (.iconst 0, 1) := by decide +kernel
theorem dX0_reach_32 : decode cX0_reach 32 = .ok (.istore_n 3, 1) := by decide +kernel
theorem dX0_reach_33 : decode cX0_reach 33 = .ok (.iload_n 3, 1) := by decide +kernel
theorem dX0_reach_34 : decode cX0_reach 34 = .ok (.aload_n 0, 1) := by decide +kernel
theorem dX0_reach_35 : decode cX0_reach 35 = .ok (.getfield 25, 3) := by decide +kernel
theorem dX0_reach_38 : decode cX0_reach 38 = .ok (.if_icmp .ge 26, 3) := by decide +kernel
theorem dX0_reach_41 : decode cX0_reach 41 = .ok (.iload_n 3, 1) := by decide +kernel
theorem dX0_reach_42 : decode cX0_reach 42 = .ok (.bipush 10, 2) := by decide +kernel
theorem dX0_reach_44 : decode cX0_reach 44 = .ok (.if_icmp .ge 20, 3) := by decide +kernel
theorem dX0_reach_47 : decode cX0_reach 47 = .ok (.aload_n 0, 1) := by decide +kernel
theorem dX0_reach_48 : decode cX0_reach 48 = .ok (.aload_n 1, 1) := by decide +kernel
theorem dX0_reach_49 : decode cX0_reach 49 = .ok (.aload_n 0, 1) := by decide +kernel
theorem dX0_reach_50 : decode cX0_reach 50 = .ok (.getfield 18, 3) := by decide +kernel
theorem dX0_reach_53 : decode cX0_reach 53 = .ok (.iload_n 3, 1) := by decide +kernel
theorem dX0_reach_54 : decode cX0_reach 54 = .ok (.iaload, 1) := by decide +kernel
theorem dX0_reach_55 : decode cX0_reach 55 = .ok (.invokevirtual 33, 3) := by decide +kernel
theorem dX0_reach_58 : decode cX0_reach 58 = .ok (.iinc 3 1, 3) := by decide +kernel
theorem dX0_reach_61 : decode cX0_reach 61 = .ok (.goto (-28), 3) := by decide +kernel
theorem dX0_reach_64 : decode cX0_reach 64 = .ok (.aload_n 0, 1) := by decide +kernel
theorem dX0_reach_65 : decode cX0_reach 65 = .ok (.getfield 25, 3) := by decide +kernel
theorem dX0_reach_68 : decode cX0_reach 68 = .ok (.ireturn, 1) := by decide +kernel
theorem dX0_addTargets_0 : decode cX0_addTargets 0 = .ok (.iconst 0, 1) := by decide +kernel
theorem dX0_addTargets_1 : decode cX0_addTargets 1 = .ok (.istore_n 3, 1) := by decide +kernel
theorem dX0_addTargets_2 : decode cX0_addTargets 2 = .ok (.iload_n 3, 1) := by decide +kernel
theorem dX0_addTargets_3 : decode cX0_addTargets 3 = .ok (.aload_n 1, 1) := by decide +kernel
theorem dX0_addTargets_4 : decode cX0_addTargets 4 = .ok (.iload_n 2, 1) := by decide +kernel
theorem dX0_addTargets_5 : decode cX0_addTargets 5 = .ok (.invokevirtual 37, 3) := by decide +kernel
theorem dX0_addTargets_8 : decode cX0_addTargets 8 = .ok (.if_icmp .ge 34, 3) := by decide +kernel
theorem dX0_addTargets_11 : decode cX0_addTargets 11 = .ok (.aload_n 1, 1) := by decide +kernel
theorem dX0_addTargets_12 : decode cX0_addTargets 12 = .ok (.iload_n 2, 1) := by decide +kernel
theorem dX0_addTargets_13 : decode cX0_addTargets 13 = .ok (.iload_n 3, 1) := by decide +kernel
theorem dX0_addTargets_14 : decode cX0_addTargets 14 = .ok (.invokevirtual 43, 3) := by decide +kernel
theorem dX0_addTargets_17 : decode cX0_addTargets 17 = .ok (.istore 4, 2) := by decide +kernel
theorem dX0_addTargets_19 : decode cX0_addTargets 19 = .ok (.iload 4, 2) := by decide +kernel
theorem dX0_addTargets_21 : decode cX0_addTargets 21 = .ok (.invokestatic 47, 3) := by decide +kernel
theorem dX0_addTargets_24 : decode cX0_addTargets 24 = .ok (.ifCond .eq 12, 3) := by decide +kernel
theorem dX0_addTargets_27 : decode cX0_addTargets 27 = .ok (.aload_n 0, 1) := by decide +kernel
theorem dX0_addTargets_28 : decode cX0_addTargets 28 = .ok (.iload 4, 2) := by decide +kernel
theorem dX0_addTargets_30 : decode cX0_addTargets 30 = .ok (.invokestatic 51, 3) := by decide +kernel
theorem dX0_addTargets_33 : decode cX0_addTargets 33 = .ok (.invokevirtual 29, 3) := by decide +kernel
theorem dX0_addTargets_36 : decode cX0_addTargets 36 = .ok (.iinc 3 1, 3) := by decide +kernel
theorem dX0_addTargets_39 : decode cX0_addTargets 39 = .ok (.goto (-37), 3) := by decide +kernel
theorem dX0_addTargets_42 : decode cX0_addTargets 42 = .ok (.return_, 1) := by decide +kernel
theorem dX0_addReached_0 : decode cX0_addReached 0 = .ok (.iload_n 1, 1) := by decide +kernel
theorem dX0_addReached_1 : decode cX0_addReached 1 = .ok (.ifCond .lt 19, 3) := by decide +kernel
theorem dX0_addReached_4 : decode cX0_addReached 4 = .ok (.iload_n 1, 1) := by decide +kernel
theorem dX0_addReached_5 : decode cX0_addReached 5 = .ok (.bipush 10, 2) := by decide +kernel
theorem dX0_addReached_7 : decode cX0_addReached 7 = .ok (.if_icmp .ge 13, 3) := by decide +kernel
theorem dX0_addReached_10 : decode cX0_addReached 10 = .ok (.aload_n 0, 1) := by decide +kernel
theorem dX0_addReached_11 : decode cX0_addReached 11 = .ok (.getfield 22, 3) := by decide +kernel
theorem dX0_addReached_14 : decode cX0_addReached 14 = .ok (.iload_n 1, 1) := by decide +kernel
theorem dX0_addReached_15 : decode cX0_addReached 15 = .ok (.iaload, 1) := by decide +kernel
theorem dX0_addReached_16 : decode cX0_addReached 16 = .ok (.iconst (-1), 1) := by decide +kernel
theorem dX0_addReached_17 : decode cX0_addReached 17 = .ok (.if_icmp .eq 7, 3) := by decide +kernel
theorem dX0_addReached_20 : decode cX0_addReached 20 = .ok (.iconst 1, 1) := by decide +kernel
theorem dX0_addReached_21 : decode cX0_addReached 21 = .ok (.goto 4, 3) := by decide +kernel
theorem dX0_addReached_24 : decode cX0_addReached 24 = .ok (.iconst 0, 1) := by decide +kernel
theorem dX0_addReached_25 : decode cX0_addReached 25 = .ok (.istore_n 2, 1) := by decide +kernel
theorem dX0_addReached_26 : decode cX0_addReached 26 = .ok (.iload_n 2, 1) := by decide +kernel
theorem dX0_addReached_27 : decode cX0_addReached 27 = .ok (.ifCond .ne 49, 3) := by decide +kernel
theorem dX0_addReached_30 : decode cX0_addReached 30 = .ok (.aload_n 0, 1) := by decide +kernel
theorem dX0_addReached_31 : decode cX0_addReached 31 = .ok (.getfield 25, 3) := by decide +kernel
theorem dX0_addReached_34 : decode cX0_addReached 34 = .ok (.ifCond .lt 42, 3) := by decide +kernel
theorem dX0_addReached_37 : decode cX0_addReached 37 = .ok (.aload_n 0, 1) := by decide +kernel
theorem dX0_addReached_38 : decode cX0_addReached 38 = .ok (.getfield 25, 3) := by decide +kernel
theorem dX0_addReached_41 : decode cX0_addReached 41 = .ok (.bipush 10, 2) := by decide +kernel
theorem dX0_addReached_43 : decode cX0_addReached 43 = .ok (.if_icmp .ge 33, 3) := by decide +kernel
theorem dX0_addReached_46 : decode cX0_addReached 46 = .ok (.aload_n 0, 1) := by decide +kernel
theorem dX0_addReached_47 : decode cX0_addReached 47 = .ok (.getfield 22, 3) := by decide +kernel
theorem dX0_addReached_50 : decode cX0_addReached 50 = .ok (.iload_n 1, 1) := by decide +kernel
theorem dX0_addReached_51 : decode cX0_addReached 51 = .ok (.aload_n 0, 1) := by decide +kernel
theorem dX0_addReached_52 : decode cX0_addReached 52 = .ok (.getfield 25, 3) := by decide +kernel
theorem dX0_addReached_55 : decode cX0_addReached 55 = .ok (.iastore, 1) := by decide +kernel
theorem dX0_addReached_56 : decode cX0_addReached 56 = .ok (.aload_n 0, 1) := by decide +kernel
theorem dX0_addReached_57 : decode cX0_addReached 57 = .ok (.getfield 18, 3) := by decide +kernel
theorem dX0_addReached_60 : decode cX0_addReached 60 = .ok (.aload_n 0, 1) := by decide +kernel
theorem dX0_addReached_61 : decode cX0_addReached 61 = .ok (.getfield 25, 3) := by decide +kernel
theorem dX0_addReached_64 : decode cX0_addReached 64 = .ok (.iload_n 1, 1) := by decide +kernel
theorem dX0_addReached_65 : decode cX0_addReached 65 = .ok (.iastore, 1) := by decide +kernel
theorem dX0_addReached_66 : decode cX0_addReached 66 = .ok (.aload_n 0, 1) := by decide +kernel
theorem dX0_addReached_67 : decode cX0_addReached 67 = .ok (.aload_n 0, 1) := by decide +kernel
theorem dX0_addReached_68 : decode cX0_addReached 68 = .ok (.getfield 25, 3) := by decide +kernel
theorem dX0_addReached_71 : decode cX0_addReached 71 = .ok (.iconst 1, 1) := by decide +kernel
theorem dX0_addReached_72 : decode cX0_addReached 72 = .ok (.iadd, 1) := by decide +kernel
theorem dX0_addReached_73 : decode cX0_addReached 73 = .ok (.putfield 25, 3) := by decide +kernel
theorem dX0_addReached_76 : decode cX0_addReached 76 = .ok (.return_, 1) := by decide +kernel
theorem dX0_allReachedLive_0 : decode cX0_allReachedLive 0 = .ok (.iconst 0, 1) := by decide +kernel
theorem dX0_allReachedLive_1 : decode cX0_allReachedLive 1 = .ok (.istore_n 2, 1) := by decide +kernel
theorem dX0_allReachedLive_2 : decode cX0_allReachedLive 2 = .ok (.iload_n 2, 1) := by decide +kernel
theorem dX0_allReachedLive_3 : decode cX0_allReachedLive 3 = .ok (.aload_n 0, 1) := by decide +kernel
theorem dX0_allReachedLive_4 : decode cX0_allReachedLive 4 = .ok (.getfield 25, 3) := by decide +kernel
theorem dX0_allReachedLive_7 : decode cX0_allReachedLive 7 = .ok (.if_icmp .ge 30, 3) := by decide +kernel
theorem dX0_allReachedLive_10 : decode cX0_allReachedLive 10 = .ok (.iload_n 2, 1) := by decide +kernel
theorem dX0_allReachedLive_11 : decode cX0_allReachedLive 11 = .ok (.bipush 10, 2) := by decide +kernel
theorem dX0_allReachedLive_13 : decode cX0_allReachedLive 13 = .ok (.if_icmp .ge 24, 3) := by decide +kernel
theorem dX0_allReachedLive_16 : decode cX0_allReachedLive 16 = .ok (.aload_n 1, 1) := by decide +kernel
theorem dX0_allReachedLive_17 : decode cX0_allReachedLive 17 = .ok (.aload_n 0, 1) := by decide +kernel
theorem dX0_allReachedLive_18 : decode cX0_allReachedLive 18 = .ok (.getfield 18, 3) := by decide +kernel
theorem dX0_allReachedLive_21 : decode cX0_allReachedLive 21 = .ok (.iload_n 2, 1) := by decide +kernel
theorem dX0_allReachedLive_22 : decode cX0_allReachedLive 22 = .ok (.iaload, 1) := by decide +kernel
theorem dX0_allReachedLive_23 : decode cX0_allReachedLive 23 = .ok (.invokevirtual 54, 3) := by decide +kernel
theorem dX0_allReachedLive_26 : decode cX0_allReachedLive 26 = .ok (.ifCond .ne 5, 3) := by decide +kernel
theorem dX0_allReachedLive_29 : decode cX0_allReachedLive 29 = .ok (.iconst 0, 1) := by decide +kernel
theorem dX0_allReachedLive_30 : decode cX0_allReachedLive 30 = .ok (.ireturn, 1) := by decide +kernel
theorem dX0_allReachedLive_31 : decode cX0_allReachedLive 31 = .ok (.iinc 2 1, 3) := by decide +kernel
theorem dX0_allReachedLive_34 : decode cX0_allReachedLive 34 = .ok (.goto (-32), 3) := by decide +kernel
theorem dX0_allReachedLive_37 : decode cX0_allReachedLive 37 = .ok (.iconst 1, 1) := by decide +kernel
theorem dX0_allReachedLive_38 : decode cX0_allReachedLive 38 = .ok (.ireturn, 1) := by decide +kernel
theorem dX0_markReachedConstant_0 : decode cX0_markReachedConstant 0 = .ok (.iconst 0, 1) := by decide +kernel
theorem dX0_markReachedConstant_1 : decode cX0_markReachedConstant 1 = .ok (.istore_n 2, 1) := by decide +kernel
theorem dX0_markReachedConstant_2 : decode cX0_markReachedConstant 2 = .ok (.iload_n 2, 1) := by decide +kernel
theorem dX0_markReachedConstant_3 : decode cX0_markReachedConstant 3 = .ok (.aload_n 0, 1) := by decide +kernel
theorem dX0_markReachedConstant_4 : decode cX0_markReachedConstant 4 = .ok (.getfield 25, 3) := by decide +kernel
theorem dX0_markReachedConstant_7 : decode cX0_markReachedConstant 7 = .ok (.if_icmp .ge 25, 3) := by decide +kernel
theorem dX0_markReachedConstant_10 : decode cX0_markReachedConstant 10 = .ok (.iload_n 2, 1) := by decide +kernel
theorem dX0_markReachedConstant_11 : decode cX0_markReachedConstant 11 = .ok (.bipush 10, 2) := by decide +kernel
theorem dX0_markReachedConstant_13 : decode cX0_markReachedConstant 13 = .ok (.if_icmp .ge 19, 3) := by decide +kernel
theorem dX0_markReachedConstant_16 : decode cX0_markReachedConstant 16 = .ok (.aload_n 1, 1) := by decide +kernel
theorem dX0_markReachedConstant_17 : decode cX0_markReachedConstant 17 = .ok (.aload_n 0, 1) := by decide +kernel
theorem dX0_markReachedConstant_18 : decode cX0_markReachedConstant 18 = .ok (.getfield 18, 3) := by decide +kernel
theorem dX0_markReachedConstant_21 : decode cX0_markReachedConstant 21 = .ok (.iload_n 2, 1) := by decide +kernel
theorem dX0_markReachedConstant_22 : decode cX0_markReachedConstant 22 = .ok (.iaload, 1) := by decide +kernel
theorem dX0_markReachedConstant_23 : decode cX0_markReachedConstant 23 = .ok (.invokevirtual 57, 3) := by decide +kernel
theorem dX0_markReachedConstant_26 : decode cX0_markReachedConstant 26 = .ok (.iinc 2 1, 3) := by decide +kernel
theorem dX0_markReachedConstant_29 : decode cX0_markReachedConstant 29 = .ok (.goto (-27), 3) := by decide +kernel
theorem dX0_markReachedConstant_32 : decode cX0_markReachedConstant 32 = .ok (.return_, 1) := by decide +kernel
theorem dX0_draw_0 : decode cX0_draw 0 = .ok (.aload_n 0, 1) := by decide +kernel
theorem dX0_draw_1 : decode cX0_draw 1 = .ok (.aload_n 1, 1) := by decide +kernel
theorem dX0_draw_2 : decode cX0_draw 2 = .ok (.getfield 60, 3) := by decide +kernel
theorem dX0_draw_5 : decode cX0_draw 5 = .ok (.invokevirtual 62, 3) := by decide +kernel
theorem dX0_draw_8 : decode cX0_draw 8 = .ok (.astore_n 2, 1) := by decide +kernel
theorem dX0_draw_9 : decode cX0_draw 9 = .ok (.aload_n 2, 1) := by decide +kernel
theorem dX0_draw_10 : decode cX0_draw 10 = .ok (.invokevirtual 66, 3) := by decide +kernel
theorem dX0_draw_13 : decode cX0_draw 13 = .ok (.iconst 0, 1) := by decide +kernel
theorem dX0_draw_14 : decode cX0_draw 14 = .ok (.istore_n 3, 1) := by decide +kernel
theorem dX0_draw_15 : decode cX0_draw 15 = .ok (.iload_n 3, 1) := by decide +kernel
theorem dX0_draw_16 : decode cX0_draw 16 = .ok (.aload_n 0, 1) := by decide +kernel
theorem dX0_draw_17 : decode cX0_draw 17 = .ok (.getfield 25, 3) := by decide +kernel
theorem dX0_draw_20 : decode cX0_draw 20 = .ok (.if_icmp .ge 68, 3) := by decide +kernel
theorem dX0_draw_23 : decode cX0_draw 23 = .ok (.iload_n 3, 1) := by decide +kernel
theorem dX0_draw_24 : decode cX0_draw 24 = .ok (.bipush 10, 2) := by decide +kernel
theorem dX0_draw_26 : decode cX0_draw 26 = .ok (.if_icmp .ge 62, 3) := by decide +kernel
theorem dX0_draw_29 : decode cX0_draw 29 = .ok (.aload_n 0, 1) := by decide +kernel
theorem dX0_draw_30 : decode cX0_draw 30 = .ok (.getfield 18, 3) := by decide +kernel
theorem dX0_draw_33 : decode cX0_draw 33 = .ok (.iload_n 3, 1) := by decide +kernel
theorem dX0_draw_34 : decode cX0_draw 34 = .ok (.iaload, 1) := by decide +kernel
theorem dX0_draw_35 : decode cX0_draw 35 = .ok (.istore 4, 2) := by decide +kernel
theorem dX0_draw_37 : decode cX0_draw 37 = .ok (.aload_n 2, 1) := by decide +kernel
theorem dX0_draw_38 : decode cX0_draw 38 = .ok (.aload_n 1, 1) := by decide +kernel
theorem dX0_draw_39 : decode cX0_draw 39 = .ok (.iload 4, 2) := by decide +kernel
theorem dX0_draw_41 : decode cX0_draw 41 = .ok (.invokevirtual 37, 3) := by decide +kernel
theorem dX0_draw_44 : decode cX0_draw 44 = .ok (.invokevirtual 69, 3) := by decide +kernel
theorem dX0_draw_47 : decode cX0_draw 47 = .ok (.iconst 0, 1) := by decide +kernel
theorem dX0_draw_48 : decode cX0_draw 48 = .ok (.istore 5, 2) := by decide +kernel
theorem dX0_draw_50 : decode cX0_draw 50 = .ok (.iload 5, 2) := by decide +kernel
theorem dX0_draw_52 : decode cX0_draw 52 = .ok (.bipush 12, 2) := by decide +kernel
theorem dX0_draw_54 : decode cX0_draw 54 = .ok (.if_icmp .ge 28, 3) := by decide +kernel
theorem dX0_draw_57 : decode cX0_draw 57 = .ok (.aload_n 2, 1) := by decide +kernel
theorem dX0_draw_58 : decode cX0_draw 58 = .ok (.iload_n 3, 1) := by decide +kernel
theorem dX0_draw_59 : decode cX0_draw 59 = .ok (.iload 5, 2) := by decide +kernel
theorem dX0_draw_61 : decode cX0_draw 61 = .ok (.aload_n 0, 1) := by decide +kernel
theorem dX0_draw_62 : decode cX0_draw 62 = .ok (.aload_n 1, 1) := by decide +kernel
theorem dX0_draw_63 : decode cX0_draw 63 = .ok (.iload 4, 2) := by decide +kernel
theorem dX0_draw_65 : decode cX0_draw 65 = .ok (.iload 5, 2) := by decide +kernel
theorem dX0_draw_67 : decode cX0_draw 67 = .ok (.invokevirtual 43, 3) := by decide +kernel
theorem dX0_draw_70 : decode cX0_draw 70 = .ok (.invokevirtual 72, 3) := by decide +kernel
theorem dX0_draw_73 : decode cX0_draw 73 = .ok (.invokevirtual 75, 3) := by decide +kernel
theorem dX0_draw_76 : decode cX0_draw 76 = .ok (.iinc 5 1, 3) := by decide +kernel
theorem dX0_draw_79 : decode cX0_draw 79 = .ok (.goto (-29), 3) := by decide +kernel
theorem dX0_draw_82 : decode cX0_draw 82 = .ok (.iinc 3 1, 3) := by decide +kernel
theorem dX0_draw_85 : decode cX0_draw 85 = .ok (.goto (-70), 3) := by decide +kernel
theorem dX0_draw_88 : decode cX0_draw 88 = .ok (.return_, 1) := by decide +kernel
theorem dX0_indexOfDrawn_0 : decode cX0_indexOfDrawn 0 = .ok (.aload_n 0, 1) := by decide +kernel
theorem dX0_indexOfDrawn_1 : decode cX0_indexOfDrawn 1 = .ok (.aload_n 1, 1) := by decide +kernel
theorem dX0_indexOfDrawn_2 : decode cX0_indexOfDrawn 2 = .ok (.getfield 60, 3) := by decide +kernel
theorem dX0_indexOfDrawn_5 : decode cX0_indexOfDrawn 5 = .ok (.invokevirtual 62, 3) := by decide +kernel
theorem dX0_indexOfDrawn_8 : decode cX0_indexOfDrawn 8 = .ok (.astore_n 2, 1) := by decide +kernel
theorem dX0_indexOfDrawn_9 : decode cX0_indexOfDrawn 9 = .ok (.iconst 0, 1) := by decide +kernel
theorem dX0_indexOfDrawn_10 : decode cX0_indexOfDrawn 10 = .ok (.istore_n 3, 1) := by decide +kernel
theorem dX0_indexOfDrawn_11 : decode cX0_indexOfDrawn 11 = .ok (.iload_n 3, 1) := by decide +kernel
theorem dX0_indexOfDrawn_12 : decode cX0_indexOfDrawn 12 = .ok (.aload_n 1, 1) := by decide +kernel
theorem dX0_indexOfDrawn_13 : decode cX0_indexOfDrawn 13 = .ok (.getfield 60, 3) := by decide +kernel
theorem dX0_indexOfDrawn_16 : decode cX0_indexOfDrawn 16 = .ok (.if_icmp .ge 23, 3) := by decide +kernel
theorem dX0_indexOfDrawn_19 : decode cX0_indexOfDrawn 19 = .ok (.aload_n 0, 1) := by decide +kernel
theorem dX0_indexOfDrawn_20 : decode cX0_indexOfDrawn 20 = .ok (.iload_n 3, 1) := by decide +kernel
theorem dX0_indexOfDrawn_21 : decode cX0_indexOfDrawn 21 = .ok (.invokevirtual 62, 3) := by decide +kernel
theorem dX0_indexOfDrawn_24 : decode cX0_indexOfDrawn 24 = .ok (.aload_n 2, 1) := by decide +kernel
theorem dX0_indexOfDrawn_25 : decode cX0_indexOfDrawn 25 = .ok (.invokevirtual 79, 3) := by decide +kernel
theorem dX0_indexOfDrawn_28 : decode cX0_indexOfDrawn 28 = .ok (.ifCond .eq 5, 3) := by decide +kernel
theorem dX0_indexOfDrawn_31 : decode cX0_indexOfDrawn 31 = .ok (.iload_n 3, 1) := by decide +kernel
theorem dX0_indexOfDrawn_32 : decode cX0_indexOfDrawn 32 = .ok (.ireturn, 1) := by decide +kernel
theorem dX0_indexOfDrawn_33 : decode cX0_indexOfDrawn 33 = .ok (.iinc 3 1, 3) := by decide +kernel
theorem dX0_indexOfDrawn_36 : decode cX0_indexOfDrawn 36 = .ok (.goto (-25), 3) := by decide +kernel
theorem dX0_indexOfDrawn_39 : decode cX0_indexOfDrawn 39 = .ok (.aload_n 1, 1) := by decide +kernel
theorem dX0_indexOfDrawn_40 : decode cX0_indexOfDrawn 40 = .ok (.getfield 60, 3) := by decide +kernel
theorem dX0_indexOfDrawn_43 : decode cX0_indexOfDrawn 43 = .ok (.ireturn, 1) := by decide +kernel
theorem dX0_codeInImage_0 : decode cX0_codeInImage 0 = .ok (.iload_n 1, 1) := by decide +kernel
theorem dX0_codeInImage_1 : decode cX0_codeInImage 1 = .ok (.invokestatic 47, 3) := by decide +kernel
theorem dX0_codeInImage_4 : decode cX0_codeInImage 4 = .ok (.ifCond .ne 5, 3) := by decide +kernel
theorem dX0_codeInImage_7 : decode cX0_codeInImage 7 = .ok (.iload_n 1, 1) := by decide +kernel
theorem dX0_codeInImage_8 : decode cX0_codeInImage 8 = .ok (.ireturn, 1) := by decide +kernel
theorem dX0_codeInImage_9 : decode cX0_codeInImage 9 = .ok (.iload_n 1, 1) := by decide +kernel
theorem dX0_codeInImage_10 : decode cX0_codeInImage 10 = .ok (.invokestatic 51, 3) := by decide +kernel
theorem dX0_codeInImage_13 : decode cX0_codeInImage 13 = .ok (.istore_n 2, 1) := by decide +kernel
theorem dX0_codeInImage_14 : decode cX0_codeInImage 14 = .ok (.iload_n 2, 1) := by decide +kernel
theorem dX0_codeInImage_15 : decode cX0_codeInImage 15 = .ok (.ifCond .lt 18, 3) := by decide +kernel
theorem dX0_codeInImage_18 : decode cX0_codeInImage 18 = .ok (.iload_n 2, 1) := by decide +kernel
theorem dX0_codeInImage_19 : decode cX0_codeInImage 19 = .ok (.bipush 10, 2) := by decide +kernel
theorem dX0_codeInImage_21 : decode cX0_codeInImage 21 = .ok (.if_icmp .ge 12, 3) := by decide +kernel
theorem dX0_codeInImage_24 : decode cX0_codeInImage 24 = .ok (.aload_n 0, 1) := by decide +kernel
theorem dX0_codeInImage_25 : decode cX0_codeInImage 25 = .ok (.getfield 22, 3) := by decide +kernel
theorem dX0_codeInImage_28 : decode cX0_codeInImage 28 = .ok (.iload_n 2, 1) := by decide +kernel
theorem dX0_codeInImage_29 : decode cX0_codeInImage 29 = .ok (.iaload, 1) := by decide +kernel
theorem dX0_codeInImage_30 : decode cX0_codeInImage 30 = .ok (.goto 4, 3) := by decide +kernel
theorem dX0_codeInImage_33 : decode cX0_codeInImage 33 = .ok (.iconst (-1), 1) := by decide +kernel
theorem dX0_codeInImage_34 : decode cX0_codeInImage 34 = .ok (.istore_n 3, 1) := by decide +kernel
theorem dX0_codeInImage_35 : decode cX0_codeInImage 35 = .ok (.iload_n 3, 1) := by decide +kernel
theorem dX0_codeInImage_36 : decode cX0_codeInImage 36 = .ok (.iload_n 1, 1) := by decide +kernel
theorem dX0_codeInImage_37 : decode cX0_codeInImage 37 = .ok (.invokestatic 83, 3) := by decide +kernel
theorem dX0_codeInImage_40 : decode cX0_codeInImage 40 = .ok (.invokestatic 86, 3) := by decide +kernel
theorem dX0_codeInImage_43 : decode cX0_codeInImage 43 = .ok (.ireturn, 1) := by decide +kernel
theorem dX1_init_0 : decode cX1_init 0 = .ok (.aload_n 0, 1) := by decide +kernel
theorem dX1_init_1 : decode cX1_init 1 = .ok (.invokespecial 3, 3) := by decide +kernel
theorem dX1_init_4 : decode cX1_init 4 = .ok (.aload_n 0, 1) := by decide +kernel
theorem dX1_init_5 : decode cX1_init 5 = .ok (.bipush 10, 2) := by decide +kernel
theorem dX1_init_7 : decode cX1_init 7 = .ok (.newarray .int, 2) := by decide +kernel
theorem dX1_init_9 : decode cX1_init 9 = .ok (.putfield 9, 3) := by decide +kernel
theorem dX1_init_12 : decode cX1_init 12 = .ok (.aload_n 0, 1) := by decide +kernel
theorem dX1_init_13 : decode cX1_init 13 = .ok (.bipush 120, 2) := by decide +kernel
theorem dX1_init_15 : decode cX1_init 15 = .ok (.newarray .int, 2) := by decide +kernel
theorem dX1_init_17 : decode cX1_init 17 = .ok (.putfield 15, 3) := by decide +kernel
theorem dX1_init_20 : decode cX1_init 20 = .ok (.return_, 1) := by decide +kernel
theorem dX1_isNode_0 : decode cX1_isNode 0 = .ok (.iload_n 1, 1) := by decide +kernel
theorem dX1_isNode_1 : decode cX1_isNode 1 = .ok (.ifCond .lt 21, 3) := by decide +kernel
theorem dX1_isNode_4 : decode cX1_isNode 4 = .ok (.iload_n 1, 1) := by decide +kernel
theorem dX1_isNode_5 : decode cX1_isNode 5 = .ok (.aload_n 0, 1) := by decide +kernel
theorem dX1_isNode_6 : decode cX1_isNode 6 = .ok (.getfield 18, 3) := by decide +kernel
theorem dX1_isNode_9 : decode cX1_isNode 9 = .ok (.if_icmp .ge 13, 3) := by decide +kernel
theorem dX1_isNode_12 : decode cX1_isNode 12 = .ok (.iload_n 1, 1) := by decide +kernel
theorem dX1_isNode_13 : decode cX1_isNode 13 = .ok (.bipush 10, 2) := by decide +kernel
theorem dX1_isNode_15 : decode cX1_isNode 15 = .ok (.if_icmp .ge 7, 3) := by decide +kernel
theorem dX1_isNode_18 : decode cX1_isNode 18 = .ok (.iconst 1, 1) := by decide +kernel
theorem dX1_isNode_19 : decode cX1_isNode 19 = .ok (.goto 4, 3) := by decide +kernel
theorem dX1_isNode_22 : decode cX1_isNode 22 = .ok (.iconst 0, 1) := by decide +kernel
theorem dX1_isNode_23 : decode cX1_isNode 23 = .ok (.ireturn, 1) := by decide +kernel
theorem dX1_sizeOf_0 : decode cX1_sizeOf 0 = .ok (.iload_n 1, 1) := by decide +kernel
theorem dX1_sizeOf_1 : decode cX1_sizeOf 1 = .ok (.ifCond .lt 18, 3) := by decide +kernel
theorem dX1_sizeOf_4 : decode cX1_sizeOf 4 = .ok (.iload_n 1, 1) := by decide +kernel
theorem dX1_sizeOf_5 : decode cX1_sizeOf 5 = .ok (.bipush 10, 2) := by decide +kernel
theorem dX1_sizeOf_7 : decode cX1_sizeOf 7 = .ok (.if_icmp .ge 12, 3) := by decide +kernel
theorem dX1_sizeOf_10 : decode cX1_sizeOf 10 = .ok (.aload_n 0, 1) := by decide +kernel
theorem dX1_sizeOf_11 : decode cX1_sizeOf 11 = .ok (.getfield 9, 3) := by decide +kernel
theorem dX1_sizeOf_14 : decode cX1_sizeOf 14 = .ok (.iload_n 1, 1) := by decide +kernel
theorem dX1_sizeOf_15 : decode cX1_sizeOf 15 = .ok (.iaload, 1) := by decide +kernel
theorem dX1_sizeOf_16 : decode cX1_sizeOf 16 = .ok (.goto 4, 3) := by decide +kernel
theorem dX1_sizeOf_19 : decode cX1_sizeOf 19 = .ok (.iconst 0, 1) := by decide +kernel
theorem dX1_sizeOf_20 : decode cX1_sizeOf 20 = .ok (.ireturn, 1) := by decide +kernel
theorem dX1_cellAt_0 : decode cX1_cellAt 0 = .ok (.iload_n 1, 1) := by decide +kernel
theorem dX1_cellAt_1 : decode cX1_cellAt 1 = .ok (.ifCond .lt 33, 3) := by decide +kernel
theorem dX1_cellAt_4 : decode cX1_cellAt 4 = .ok (.iload_n 1, 1) := by decide +kernel
theorem dX1_cellAt_5 : decode cX1_cellAt 5 = .ok (.bipush 10, 2) := by decide +kernel
theorem dX1_cellAt_7 : decode cX1_cellAt 7 = .ok (.if_icmp .ge 27, 3) := by decide +kernel
theorem dX1_cellAt_10 : decode cX1_cellAt 10 = .ok (.iload_n 2, 1) := by decide +kernel
theorem dX1_cellAt_11 : decode cX1_cellAt 11 = .ok (.ifCond .lt 23, 3) := by decide +kernel
theorem dX1_cellAt_14 : decode cX1_cellAt 14 = .ok (.iload_n 2, 1) := by decide +kernel
theorem dX1_cellAt_15 : decode cX1_cellAt 15 = .ok (.bipush 12, 2) := by decide +kernel
theorem dX1_cellAt_17 : decode cX1_cellAt 17 = .ok (.if_icmp .ge 17, 3) := by decide +kernel
theorem dX1_cellAt_20 : decode cX1_cellAt 20 = .ok (.aload_n 0, 1) := by decide +kernel
theorem dX1_cellAt_21 : decode cX1_cellAt 21 = .ok (.getfield 15, 3) := by decide +kernel
theorem dX1_cellAt_24 : decode cX1_cellAt 24 = .ok (.iload_n 1, 1) := by decide +kernel
theorem dX1_cellAt_25 : decode cX1_cellAt 25 = .ok (.bipush 12, 2) := by decide +kernel
theorem dX1_cellAt_27 : decode cX1_cellAt 27 = .ok (.imul, 1) := by decide +kernel
theorem dX1_cellAt_28 : decode cX1_cellAt 28 = .ok (.iload_n 2, 1) := by decide +kernel
theorem dX1_cellAt_29 : decode cX1_cellAt 29 = .ok (.iadd, 1) := by decide +kernel
theorem dX1_cellAt_30 : decode cX1_cellAt 30 = .ok (.iaload, 1) := by decide +kernel
theorem dX1_cellAt_31 : decode cX1_cellAt 31 = .ok (.goto 4, 3) := by decide +kernel
theorem dX1_cellAt_34 : decode cX1_cellAt 34 = .ok (.iconst (-1), 1) := by decide +kernel
theorem dX1_cellAt_35 : decode cX1_cellAt 35 = .ok (.ireturn, 1) := by decide +kernel
theorem dX1_begin_0 : decode cX1_begin 0 = .ok (.aload_n 0, 1) := by decide +kernel
theorem dX1_begin_1 : decode cX1_begin 1 = .ok (.iconst 0, 1) := by decide +kernel
theorem dX1_begin_2 : decode cX1_begin 2 = .ok (.putfield 18, 3) := by decide +kernel
theorem dX1_begin_5 : decode cX1_begin 5 = .ok (.return_, 1) := by decide +kernel
theorem dX1_addNode_0 : decode cX1_addNode 0 = .ok (.aload_n 0, 1) := by decide +kernel
theorem dX1_addNode_1 : decode cX1_addNode 1 = .ok (.getfield 18, 3) := by decide +kernel
theorem dX1_addNode_4 : decode cX1_addNode 4 = .ok (.ifCond .lt 32, 3) := by decide +kernel
theorem dX1_addNode_7 : decode cX1_addNode 7 = .ok (.aload_n 0, 1) := by decide +kernel
theorem dX1_addNode_8 : decode cX1_addNode 8 = .ok (.getfield 18, 3) := by decide +kernel
theorem dX1_addNode_11 : decode cX1_addNode 11 = .ok (.bipush 10, 2) := by decide +kernel
theorem dX1_addNode_13 : decode cX1_addNode 13 = .ok (.if_icmp .ge 23, 3) := by decide +kernel
theorem dX1_addNode_16 : decode cX1_addNode 16 = .ok (.aload_n 0, 1) := by decide +kernel
theorem dX1_addNode_17 : decode cX1_addNode 17 = .ok (.getfield 9, 3) := by decide +kernel
theorem dX1_addNode_20 : decode cX1_addNode 20 = .ok (.aload_n 0, 1) := by decide +kernel
theorem dX1_addNode_21 : decode cX1_addNode 21 = .ok (.getfield 18, 3) := by decide +kernel
theorem dX1_addNode_24 : decode cX1_addNode 24 = .ok (.iload_n 1, 1) := by decide +kernel
theorem dX1_addNode_25 : decode cX1_addNode 25 = .ok (.iastore, 1) := by decide +kernel
theorem dX1_addNode_26 : decode cX1_addNode 26 = .ok (.aload_n 0, 1) := by decide +kernel
theorem dX1_addNode_27 : decode cX1_addNode 27 = .ok (.aload_n 0, 1) := by decide +kernel
theorem dX1_addNode_28 : decode cX1_addNode 28 = .ok (.getfield 18, 3) := by decide +kernel
theorem dX1_addNode_31 : decode cX1_addNode 31 = .ok (.iconst 1, 1) := by decide +kernel
theorem dX1_addNode_32 : decode cX1_addNode 32 = .ok (.iadd, 1) := by decide +kernel
theorem dX1_addNode_33 : decode cX1_addNode 33 = .ok (.putfield 18, 3) := by decide +kernel
theorem dX1_addNode_36 : decode cX1_addNode 36 = .ok (.return_, 1) := by decide +kernel
theorem dX1_putCell_0 : decode cX1_putCell 0 = .ok (.iload_n 1, 1) := by decide +kernel
theorem dX1_putCell_1 : decode cX1_putCell 1 = .ok (.ifCond .lt 31, 3) := by decide +kernel
theorem dX1_putCell_4 : decode cX1_putCell 4 = .ok (.iload_n 1, 1) := by decide +kernel
theorem dX1_putCell_5 : decode cX1_putCell 5 = .ok (.bipush 10, 2) := by decide +kernel
theorem dX1_putCell_7 : decode cX1_putCell 7 = .ok (.if_icmp .ge 25, 3) := by decide +kernel
theorem dX1_putCell_10 : decode cX1_putCell 10 = .ok (.iload_n 2, 1) := by decide +kernel
theorem dX1_putCell_11 : decode cX1_putCell 11 = .ok (.ifCond .lt 21, 3) := by decide +kernel
theorem dX1_putCell_14 : decode cX1_putCell 14 = .ok (.iload_n 2, 1) := by decide +kernel
theorem dX1_putCell_15 : decode cX1_putCell 15 = .ok (.bipush 12, 2) := by decide +kernel
theorem dX1_putCell_17 : decode cX1_putCell 17 = .ok (.if_icmp .ge 15, 3) := by decide +kernel
theorem dX1_putCell_20 : decode cX1_putCell 20 = .ok (.aload_n 0, 1) := by decide +kernel
theorem dX1_putCell_21 : decode cX1_putCell 21 = .ok (.getfield 15, 3) := by decide +kernel
theorem dX1_putCell_24 : decode cX1_putCell 24 = .ok (.iload_n 1, 1) := by decide +kernel
theorem dX1_putCell_25 : decode cX1_putCell 25 = .ok (.bipush 12, 2) := by decide +kernel
theorem dX1_putCell_27 : decode cX1_putCell 27 = .ok (.imul, 1) := by decide +kernel
theorem dX1_putCell_28 : decode cX1_putCell 28 = .ok (.iload_n 2, 1) := by decide +kernel
theorem dX1_putCell_29 : decode cX1_putCell 29 = .ok (.iadd, 1) := by decide +kernel
theorem dX1_putCell_30 : decode cX1_putCell 30 = .ok (.iload_n 3, 1) := by decide +kernel
theorem dX1_putCell_31 : decode cX1_putCell 31 = .ok (.iastore, 1) := by decide +kernel
theorem dX1_putCell_32 : decode cX1_putCell 32 = .ok (.return_, 1) := by decide +kernel
theorem dX1_property_0 : decode cX1_property 0 = .ok (.iconst 0, 1) := by decide +kernel
theorem dX1_property_1 : decode cX1_property 1 = .ok (.istore_n 2, 1) := by decide +kernel
theorem dX1_property_2 : decode cX1_property 2 = .ok (.iconst 0, 1) := by decide +kernel
theorem dX1_property_3 : decode cX1_property 3 = .ok (.istore_n 3, 1) := by decide +kernel
theorem dX1_property_4 : decode cX1_property 4 = .ok (.iconst 0, 1) := by decide +kernel
theorem dX1_property_5 : decode cX1_property 5 = .ok (.istore 4, 2) := by decide +kernel
theorem dX1_property_7 : decode cX1_property 7 = .ok (.iload 4, 2) := by decide +kernel
theorem dX1_property_9 : decode cX1_property 9 = .ok (.aload_n 0, 1) := by decide +kernel
theorem dX1_property_10 : decode cX1_property 10 = .ok (.getfield 18, 3) := by decide +kernel
theorem dX1_property_13 : decode cX1_property 13 = .ok (.if_icmp .ge 55, 3) := by decide +kernel
theorem dX1_property_16 : decode cX1_property 16 = .ok (.iload_n 2, 1) := by decide +kernel
theorem dX1_property_17 : decode cX1_property 17 = .ok (.aload_n 0, 1) := by decide +kernel
theorem dX1_property_18 : decode cX1_property 18 = .ok (.iload 4, 2) := by decide +kernel
theorem dX1_property_20 : decode cX1_property 20 = .ok (.invokevirtual 22, 3) := by decide +kernel
theorem dX1_property_23 : decode cX1_property 23 = .ok (.iadd, 1) := by decide +kernel
theorem dX1_property_24 : decode cX1_property 24 = .ok (.istore_n 2, 1) := by decide +kernel
theorem dX1_property_25 : decode cX1_property 25 = .ok (.iconst 0, 1) := by decide +kernel
theorem dX1_property_26 : decode cX1_property 26 = .ok (.istore 5, 2) := by decide +kernel
theorem dX1_property_28 : decode cX1_property 28 = .ok (.iload 5, 2) := by decide +kernel
theorem dX1_property_30 : decode cX1_property 30 = .ok (.aload_n 0, 1) := by decide +kernel
theorem dX1_property_31 : decode cX1_property 31 = .ok (.iload 4, 2) := by decide +kernel
theorem dX1_property_33 : decode cX1_property 33 = .ok (.invokevirtual 22, 3) := by decide +kernel
theorem dX1_property_36 : decode cX1_property 36 = .ok (.if_icmp .ge 26, 3) := by decide +kernel
theorem dX1_property_39 : decode cX1_property 39 = .ok (.aload_n 0, 1) := by decide +kernel
theorem dX1_property_40 : decode cX1_property 40 = .ok (.iload 4, 2) := by decide +kernel
theorem dX1_property_42 : decode cX1_property 42 = .ok (.iload 5, 2) := by decide +kernel
theorem dX1_property_44 : decode cX1_property 44 = .ok (.invokevirtual 26, 3) := by decide +kernel
theorem dX1_property_47 : decode cX1_property 47 = .ok (.invokestatic 30, 3) := by decide +kernel
theorem dX1_property_50 : decode cX1_property 50 = .ok (.ifCond .eq 6, 3) := by decide +kernel
theorem dX1_property_53 : decode cX1_property 53 = .ok (.iinc 3 1, 3) := by decide +kernel
theorem dX1_property_56 : decode cX1_property 56 = .ok (.iinc 5 1, 3) := by decide +kernel
theorem dX1_property_59 : decode cX1_property 59 = .ok (.goto (-31), 3) := by decide +kernel
theorem dX1_property_62 : decode cX1_property 62 = .ok (.iinc 4 1, 3) := by decide +kernel
theorem dX1_property_65 : decode cX1_property 65 = .ok (.goto (-58), 3) := by decide +kernel
theorem dX1_property_68 : decode cX1_property 68 = .ok (.iload_n 1, 1) := by decide +kernel
theorem dX1_property_69 : decode cX1_property 69 = .ok (.tableswitch 36 0 2 #[27, 32, 34], 27) := by decide +kernel
theorem dX1_property_96 : decode cX1_property 96 = .ok (.aload_n 0, 1) := by decide +kernel
theorem dX1_property_97 : decode cX1_property 97 = .ok (.getfield 18, 3) := by decide +kernel
theorem dX1_property_100 : decode cX1_property 100 = .ok (.ireturn, 1) := by decide +kernel
theorem dX1_property_101 : decode cX1_property 101 = .ok (.iload_n 2, 1) := by decide +kernel
theorem dX1_property_102 : decode cX1_property 102 = .ok (.ireturn, 1) := by decide +kernel
theorem dX1_property_103 : decode cX1_property 103 = .ok (.iload_n 3, 1) := by decide +kernel
theorem dX1_property_104 : decode cX1_property 104 = .ok (.ireturn, 1) := by decide +kernel
theorem dX1_property_105 : decode cX1_property 105 = .ok (.bipush (-2), 2) := by decide +kernel
theorem dX1_property_107 : decode cX1_property 107 = .ok (.ireturn, 1) := by decide +kernel
theorem dX1_isSameAs_0 : decode cX1_isSameAs 0 = .ok (.aload_n 0, 1) := by decide +kernel
theorem dX1_isSameAs_1 : decode cX1_isSameAs 1 = .ok (.getfield 18, 3) := by decide +kernel
theorem dX1_isSameAs_4 : decode cX1_isSameAs 4 = .ok (.aload_n 1, 1) := by decide +kernel
theorem dX1_isSameAs_5 : decode cX1_isSameAs 5 = .ok (.getfield 18, 3) := by decide +kernel
theorem dX1_isSameAs_8 : decode cX1_isSameAs 8 = .ok (.if_icmp .eq 5, 3) := by decide +kernel
theorem dX1_isSameAs_11 : decode cX1_isSameAs 11 = .ok (.iconst 0, 1) := by decide +kernel
theorem dX1_isSameAs_12 : decode cX1_isSameAs 12 = .ok (.ireturn, 1) := by decide +kernel
theorem dX1_isSameAs_13 : decode cX1_isSameAs 13 = .ok (.iconst 0, 1) := by decide +kernel
theorem dX1_isSameAs_14 : decode cX1_isSameAs 14 = .ok (.istore_n 2, 1) := by decide +kernel
theorem dX1_isSameAs_15 : decode cX1_isSameAs 15 = .ok (.iload_n 2, 1) := by decide +kernel
theorem dX1_isSameAs_16 : decode cX1_isSameAs 16 = .ok (.aload_n 0, 1) := by decide +kernel
theorem dX1_isSameAs_17 : decode cX1_isSameAs 17 = .ok (.getfield 18, 3) := by decide +kernel
theorem dX1_isSameAs_20 : decode cX1_isSameAs 20 = .ok (.if_icmp .ge 32, 3) := by decide +kernel
theorem dX1_isSameAs_23 : decode cX1_isSameAs 23 = .ok (.iload_n 2, 1) := by decide +kernel
theorem dX1_isSameAs_24 : decode cX1_isSameAs 24 = .ok (.bipush 10, 2) := by decide +kernel
theorem dX1_isSameAs_26 : decode cX1_isSameAs 26 = .ok (.if_icmp .ge 26, 3) := by decide +kernel
theorem dX1_isSameAs_29 : decode cX1_isSameAs 29 = .ok (.aload_n 0, 1) := by decide +kernel
theorem dX1_isSameAs_30 : decode cX1_isSameAs 30 = .ok (.getfield 9, 3) := by decide +kernel
theorem dX1_isSameAs_33 : decode cX1_isSameAs 33 = .ok (.iload_n 2, 1) := by decide +kernel
theorem dX1_isSameAs_34 : decode cX1_isSameAs 34 = .ok (.iaload, 1) := by decide +kernel
theorem dX1_isSameAs_35 : decode cX1_isSameAs 35 = .ok (.aload_n 1, 1) := by decide +kernel
theorem dX1_isSameAs_36 : decode cX1_isSameAs 36 = .ok (.getfield 9, 3) := by decide +kernel
theorem dX1_isSameAs_39 : decode cX1_isSameAs 39 = .ok (.iload_n 2, 1) := by decide +kernel
theorem dX1_isSameAs_40 : decode cX1_isSameAs 40 = .ok (.iaload, 1) := by decide +kernel
theorem dX1_isSameAs_41 : decode cX1_isSameAs 41 = .ok (.if_icmp .eq 5, 3) := by decide +kernel
theorem dX1_isSameAs_44 : decode cX1_isSameAs 44 = .ok (.iconst 0, 1) := by decide +kernel
theorem dX1_isSameAs_45 : decode cX1_isSameAs 45 = .ok (.ireturn, 1) := by decide +kernel
theorem dX1_isSameAs_46 : decode cX1_isSameAs 46 = .ok (.iinc 2 1, 3) := by decide +kernel
theorem dX1_isSameAs_49 : decode cX1_isSameAs 49 = .ok (.goto (-34), 3) := by decide +kernel
theorem dX1_isSameAs_52 : decode cX1_isSameAs 52 = .ok (.iconst 0, 1) := by decide +kernel
theorem dX1_isSameAs_53 : decode cX1_isSameAs 53 = .ok (.istore_n 2, 1) := by decide +kernel
theorem dX1_isSameAs_54 : decode cX1_isSameAs 54 = .ok (.iload_n 2, 1) := by decide +kernel
theorem dX1_isSameAs_55 : decode cX1_isSameAs 55 = .ok (.aload_n 0, 1) := by decide +kernel
theorem dX1_isSameAs_56 : decode cX1_isSameAs 56 = .ok (.getfield 18, 3) := by decide +kernel
theorem dX1_isSameAs_59 : decode cX1_isSameAs 59 = .ok (.bipush 12, 2) := by decide +kernel
theorem dX1_isSameAs_61 : decode cX1_isSameAs 61 = .ok (.imul, 1) := by decide +kernel
theorem dX1_isSameAs_62 : decode cX1_isSameAs 62 = .ok (.if_icmp .ge 32, 3) := by decide +kernel
theorem dX1_isSameAs_65 : decode cX1_isSameAs 65 = .ok (.iload_n 2, 1) := by decide +kernel
theorem dX1_isSameAs_66 : decode cX1_isSameAs 66 = .ok (.bipush 120, 2) := by decide +kernel
theorem dX1_isSameAs_68 : decode cX1_isSameAs 68 = .ok (.if_icmp .ge 26, 3) := by decide +kernel
theorem dX1_isSameAs_71 : decode cX1_isSameAs 71 = .ok (.aload_n 0, 1) := by decide +kernel
theorem dX1_isSameAs_72 : decode cX1_isSameAs 72 = .ok (.getfield 15, 3) := by decide +kernel
theorem dX1_isSameAs_75 : decode cX1_isSameAs 75 = .ok (.iload_n 2, 1) := by decide +kernel
theorem dX1_isSameAs_76 : decode cX1_isSameAs 76 = .ok (.iaload, 1) := by decide +kernel
theorem dX1_isSameAs_77 : decode cX1_isSameAs 77 = .ok (.aload_n 1, 1) := by decide +kernel
theorem dX1_isSameAs_78 : decode cX1_isSameAs 78 = .ok (.getfield 15, 3) := by decide +kernel
theorem dX1_isSameAs_81 : decode cX1_isSameAs 81 = .ok (.iload_n 2, 1) := by decide +kernel
theorem dX1_isSameAs_82 : decode cX1_isSameAs 82 = .ok (.iaload, 1) := by decide +kernel
theorem dX1_isSameAs_83 : decode cX1_isSameAs 83 = .ok (.if_icmp .eq 5, 3) := by decide +kernel
theorem dX1_isSameAs_86 : decode cX1_isSameAs 86 = .ok (.iconst 0, 1) := by decide +kernel
theorem dX1_isSameAs_87 : decode cX1_isSameAs 87 = .ok (.ireturn, 1) := by decide +kernel
theorem dX1_isSameAs_88 : decode cX1_isSameAs 88 = .ok (.iinc 2 1, 3) := by decide +kernel
theorem dX1_isSameAs_91 : decode cX1_isSameAs 91 = .ok (.goto (-37), 3) := by decide +kernel
theorem dX1_isSameAs_94 : decode cX1_isSameAs 94 = .ok (.iconst 1, 1) := by decide +kernel
theorem dX1_isSameAs_95 : decode cX1_isSameAs 95 = .ok (.ireturn, 1) := by decide +kernel
theorem dX2_init_0 : decode cX2_init 0 = .ok (.aload_n 0, 1) := by decide +kernel
theorem dX2_init_1 : decode cX2_init 1 = .ok (.invokespecial 3, 3) := by decide +kernel
theorem dX2_init_4 : decode cX2_init 4 = .ok (.aload_n 0, 1) := by decide +kernel
theorem dX2_init_5 : decode cX2_init 5 = .ok (.aload_n 1, 1) := by decide +kernel
theorem dX2_init_6 : decode cX2_init 6 = .ok (.putfield 9, 3) := by decide +kernel
theorem dX2_init_9 : decode cX2_init 9 = .ok (.aload_n 0, 1) := by decide +kernel
theorem dX2_init_10 : decode cX2_init 10 = .ok (.aload_n 2, 1) := by decide +kernel
theorem dX2_init_11 : decode cX2_init 11 = .ok (.putfield 15, 3) := by decide +kernel
theorem dX2_init_14 : decode cX2_init 14 = .ok (.aload_n 0, 1) := by decide +kernel
theorem dX2_init_15 : decode cX2_init 15 = .ok (.bipush 12, 2) := by decide +kernel
theorem dX2_init_17 : decode cX2_init 17 = .ok (.newarray .int, 2) := by decide +kernel
theorem dX2_init_19 : decode cX2_init 19 = .ok (.putfield 19, 3) := by decide +kernel
theorem dX2_init_22 : decode cX2_init 22 = .ok (.return_, 1) := by decide +kernel
theorem dX2_makeBlock_0 : decode cX2_makeBlock 0 = .ok (.iload_n 1, 1) := by decide +kernel
theorem dX2_makeBlock_1 : decode cX2_makeBlock 1 = .ok (.invokestatic 23, 3) := by decide +kernel
theorem dX2_makeBlock_4 : decode cX2_makeBlock 4 = .ok (.ifCond .eq 14, 3) := by decide +kernel
theorem dX2_makeBlock_7 : decode cX2_makeBlock 7 = .ok (.iload_n 2, 1) := by decide +kernel
theorem dX2_makeBlock_8 : decode cX2_makeBlock 8 = .ok (.iconst 1, 1) := by decide +kernel
theorem dX2_makeBlock_9 : decode cX2_makeBlock 9 = .ok (.if_icmp .lt 9, 3) := by decide +kernel
theorem dX2_makeBlock_12 : decode cX2_makeBlock 12 = .ok (.iload_n 2, 1) := by decide +kernel
theorem dX2_makeBlock_13 : decode cX2_makeBlock 13 = .ok (.bipush 12, 2) := by decide +kernel
theorem dX2_makeBlock_15 : decode cX2_makeBlock 15 = .ok (.if_icmp .le 6, 3) := by decide +kernel
theorem dX2_makeBlock_18 : decode cX2_makeBlock 18 = .ok (.bipush (-2), 2) := by decide +kernel
theorem dX2_makeBlock_20 : decode cX2_makeBlock 20 = .ok (.ireturn, 1) := by decide +kernel
theorem dX2_makeBlock_21 : decode cX2_makeBlock 21 = .ok (.aload_n 0, 1) := by decide +kernel
theorem dX2_makeBlock_22 : decode cX2_makeBlock 22 = .ok (.getfield 9, 3) := by decide +kernel
theorem dX2_makeBlock_25 : decode cX2_makeBlock 25 = .ok (.getfield 27, 3) := by decide +kernel
theorem dX2_makeBlock_28 : decode cX2_makeBlock 28 = .ok (.bipush 10, 2) := by decide +kernel
theorem dX2_makeBlock_30 : decode cX2_makeBlock 30 = .ok (.if_icmp .lt 6, 3) := by decide +kernel
theorem dX2_makeBlock_33 : decode cX2_makeBlock 33 = .ok (.bipush (-4), 2) := by decide +kernel
theorem dX2_makeBlock_35 : decode cX2_makeBlock 35 = .ok (.ireturn, 1) := by decide +kernel
theorem dX2_makeBlock_36 : decode cX2_makeBlock 36 = .ok (.aload_n 0, 1) := by decide +kernel
theorem dX2_makeBlock_37 : decode cX2_makeBlock 37 = .ok (.getfield 9, 3) := by decide +kernel
theorem dX2_makeBlock_40 : decode cX2_makeBlock 40 = .ok (.getfield 27, 3) := by decide +kernel
theorem dX2_makeBlock_43 : decode cX2_makeBlock 43 = .ok (.istore_n 3, 1) := by decide +kernel
theorem dX2_makeBlock_44 : decode cX2_makeBlock 44 = .ok (.aload_n 0, 1) := by decide +kernel
theorem dX2_makeBlock_45 : decode cX2_makeBlock 45 = .ok (.getfield 9, 3) := by decide +kernel
theorem dX2_makeBlock_48 : decode cX2_makeBlock 48 = .ok (.iload_n 2, 1) := by decide +kernel
theorem dX2_makeBlock_49 : decode cX2_makeBlock 49 = .ok (.invokevirtual 33, 3) := by decide +kernel
theorem dX2_makeBlock_52 : decode cX2_makeBlock 52 = .ok (.aload_n 0, 1) := by decide +kernel
theorem dX2_makeBlock_53 : decode cX2_makeBlock 53 = .ok (.getfield 9, 3) := by decide +kernel
theorem dX2_makeBlock_56 : decode cX2_makeBlock 56 = .ok (.iload_n 1, 1) := by decide +kernel
theorem dX2_makeBlock_57 : decode cX2_makeBlock 57 = .ok (.iload_n 3, 1) := by decide +kernel
theorem dX2_makeBlock_58 : decode cX2_makeBlock 58 = .ok (.iconst 0, 1) := by decide +kernel
theorem dX2_makeBlock_59 : decode cX2_makeBlock 59 = .ok (.invokevirtual 37, 3) := by decide +kernel
theorem dX2_makeBlock_62 : decode cX2_makeBlock 62 = .ok (.iload_n 3, 1) := by decide +kernel
theorem dX2_makeBlock_63 : decode cX2_makeBlock 63 = .ok (.ireturn, 1) := by decide +kernel
theorem dX2_endBlock_0 : decode cX2_endBlock 0 = .ok (.iload_n 1, 1) := by decide +kernel
theorem dX2_endBlock_1 : decode cX2_endBlock 1 = .ok (.invokestatic 23, 3) := by decide +kernel
theorem dX2_endBlock_4 : decode cX2_endBlock 4 = .ok (.ifCond .ne 6, 3) := by decide +kernel
theorem dX2_endBlock_7 : decode cX2_endBlock 7 = .ok (.bipush (-2), 2) := by decide +kernel
theorem dX2_endBlock_9 : decode cX2_endBlock 9 = .ok (.ireturn, 1) := by decide +kernel
theorem dX2_endBlock_10 : decode cX2_endBlock 10 = .ok (.aload_n 0, 1) := by decide +kernel
theorem dX2_endBlock_11 : decode cX2_endBlock 11 = .ok (.iload_n 1, 1) := by decide +kernel
theorem dX2_endBlock_12 : decode cX2_endBlock 12 = .ok (.invokevirtual 41, 3) := by decide +kernel
theorem dX2_endBlock_15 : decode cX2_endBlock 15 = .ok (.istore_n 2, 1) := by decide +kernel
theorem dX2_endBlock_16 : decode cX2_endBlock 16 = .ok (.iload_n 2, 1) := by decide +kernel
theorem dX2_endBlock_17 : decode cX2_endBlock 17 = .ok (.ifCond .eq 5, 3) := by decide +kernel
theorem dX2_endBlock_20 : decode cX2_endBlock 20 = .ok (.iload_n 2, 1) := by decide +kernel
theorem dX2_endBlock_21 : decode cX2_endBlock 21 = .ok (.ireturn, 1) := by decide +kernel
theorem dX2_endBlock_22 : decode cX2_endBlock 22 = .ok (.aload_n 0, 1) := by decide +kernel
theorem dX2_endBlock_23 : decode cX2_endBlock 23 = .ok (.getfield 9, 3) := by decide +kernel
theorem dX2_endBlock_26 : decode cX2_endBlock 26 = .ok (.iload_n 1, 1) := by decide +kernel
theorem dX2_endBlock_27 : decode cX2_endBlock 27 = .ok (.invokevirtual 45, 3) := by decide +kernel
theorem dX2_endBlock_30 : decode cX2_endBlock 30 = .ok (.istore_n 3, 1) := by decide +kernel
theorem dX2_endBlock_31 : decode cX2_endBlock 31 = .ok (.aload_n 0, 1) := by decide +kernel
theorem dX2_endBlock_32 : decode cX2_endBlock 32 = .ok (.getfield 9, 3) := by decide +kernel
theorem dX2_endBlock_35 : decode cX2_endBlock 35 = .ok (.iload_n 3, 1) := by decide +kernel
theorem dX2_endBlock_36 : decode cX2_endBlock 36 = .ok (.invokevirtual 48, 3) := by decide +kernel
theorem dX2_endBlock_39 : decode cX2_endBlock 39 = .ok (.ifCond .eq 6, 3) := by decide +kernel
theorem dX2_endBlock_42 : decode cX2_endBlock 42 = .ok (.bipush (-14), 2) := by decide +kernel
theorem dX2_endBlock_44 : decode cX2_endBlock 44 = .ok (.ireturn, 1) := by decide +kernel
theorem dX2_endBlock_45 : decode cX2_endBlock 45 = .ok (.aload_n 0, 1) := by decide +kernel
theorem dX2_endBlock_46 : decode cX2_endBlock 46 = .ok (.getfield 9, 3) := by decide +kernel
theorem dX2_endBlock_49 : decode cX2_endBlock 49 = .ok (.iload_n 3, 1) := by decide +kernel
theorem dX2_endBlock_50 : decode cX2_endBlock 50 = .ok (.invokevirtual 51, 3) := by decide +kernel
theorem dX2_endBlock_53 : decode cX2_endBlock 53 = .ok (.iload_n 3, 1) := by decide +kernel
theorem dX2_endBlock_54 : decode cX2_endBlock 54 = .ok (.ireturn, 1) := by decide +kernel
theorem dX2_setNumber_0 : decode cX2_setNumber 0 = .ok (.iload_n 1, 1) := by decide +kernel
theorem dX2_setNumber_1 : decode cX2_setNumber 1 = .ok (.invokestatic 23, 3) := by decide +kernel
theorem dX2_setNumber_4 : decode cX2_setNumber 4 = .ok (.ifCond .eq 13, 3) := by decide +kernel
theorem dX2_setNumber_7 : decode cX2_setNumber 7 = .ok (.iload_n 2, 1) := by decide +kernel
theorem dX2_setNumber_8 : decode cX2_setNumber 8 = .ok (.ifCond .lt 9, 3) := by decide +kernel
theorem dX2_setNumber_11 : decode cX2_setNumber 11 = .ok (.iload_n 2, 1) := by decide +kernel
theorem dX2_setNumber_12 : decode cX2_setNumber 12 = .ok (.ldc 54, 2) := by decide +kernel
theorem dX2_setNumber_14 : decode cX2_setNumber 14 = .ok (.if_icmp .lt 6, 3) := by decide +kernel
theorem dX2_setNumber_17 : decode cX2_setNumber 17 = .ok (.bipush (-2), 2) := by decide +kernel
theorem dX2_setNumber_19 : decode cX2_setNumber 19 = .ok (.ireturn, 1) := by decide +kernel
theorem dX2_setNumber_20 : decode cX2_setNumber 20 = .ok (.aload_n 0, 1) := by decide +kernel
theorem dX2_setNumber_21 : decode cX2_setNumber 21 = .ok (.getfield 9, 3) := by decide +kernel
theorem dX2_setNumber_24 : decode cX2_setNumber 24 = .ok (.iload_n 1, 1) := by decide +kernel
theorem dX2_setNumber_25 : decode cX2_setNumber 25 = .ok (.iload_n 2, 1) := by decide +kernel
theorem dX2_setNumber_26 : decode cX2_setNumber 26 = .ok (.invokevirtual 55, 3) := by decide +kernel
theorem dX2_setNumber_29 : decode cX2_setNumber 29 = .ok (.iload_n 2, 1) := by decide +kernel
theorem dX2_setNumber_30 : decode cX2_setNumber 30 = .ok (.ireturn, 1) := by decide +kernel
theorem dX2_copyRegister_0 : decode cX2_copyRegister 0 = .ok (.iload_n 1, 1) := by decide +kernel
theorem dX2_copyRegister_1 : decode cX2_copyRegister 1 = .ok (.invokestatic 23, 3) := by decide +kernel
theorem dX2_copyRegister_4 : decode cX2_copyRegister 4 = .ok (.ifCond .eq 10, 3) := by decide +kernel
theorem dX2_copyRegister_7 : decode cX2_copyRegister 7 = .ok (.iload_n 2, 1) := by decide +kernel
theorem dX2_copyRegister_8 : decode cX2_copyRegister 8 = .ok (.invokestatic 23, 3) := by decide +kernel
theorem dX2_copyRegister_11 : decode cX2_copyRegister 11 = .ok (.ifCond .ne 6, 3) := by decide +kernel
theorem dX2_copyRegister_14 : decode cX2_copyRegister 14 = .ok (.bipush (-2), 2) := by decide +kernel
theorem dX2_copyRegister_16 : decode cX2_copyRegister 16 = .ok (.ireturn, 1) := by decide +kernel
theorem dX2_copyRegister_17 : decode cX2_copyRegister 17 = .ok (.aload_n 0, 1) := by decide +kernel
theorem dX2_copyRegister_18 : decode cX2_copyRegister 18 = .ok (.getfield 9, 3) := by decide +kernel
theorem dX2_copyRegister_21 : decode cX2_copyRegister 21 = .ok (.iload_n 2, 1) := by decide +kernel
theorem dX2_copyRegister_22 : decode cX2_copyRegister 22 = .ok (.invokevirtual 59, 3) := by decide +kernel
theorem dX2_copyRegister_25 : decode cX2_copyRegister 25 = .ok (.istore_n 3, 1) := by decide +kernel
theorem dX2_copyRegister_26 : decode cX2_copyRegister 26 = .ok (.aload_n 0, 1) := by decide +kernel
theorem dX2_copyRegister_27 : decode cX2_copyRegister 27 = .ok (.getfield 9, 3) := by decide +kernel
theorem dX2_copyRegister_30 : decode cX2_copyRegister 30 = .ok (.iload_n 1, 1) := by decide +kernel
theorem dX2_copyRegister_31 : decode cX2_copyRegister 31 = .ok (.iload_n 3, 1) := by decide +kernel
theorem dX2_copyRegister_32 : decode cX2_copyRegister 32 = .ok (.aload_n 0, 1) := by decide +kernel
theorem dX2_copyRegister_33 : decode cX2_copyRegister 33 = .ok (.getfield 9, 3) := by decide +kernel
theorem dX2_copyRegister_36 : decode cX2_copyRegister 36 = .ok (.iload_n 2, 1) := by decide +kernel
theorem dX2_copyRegister_37 : decode cX2_copyRegister 37 = .ok (.invokevirtual 45, 3) := by decide +kernel
theorem dX2_copyRegister_40 : decode cX2_copyRegister 40 = .ok (.aload_n 0, 1) := by decide +kernel
theorem dX2_copyRegister_41 : decode cX2_copyRegister 41 = .ok (.getfield 9, 3) := by decide +kernel
theorem dX2_copyRegister_44 : decode cX2_copyRegister 44 = .ok (.iload_n 2, 1) := by decide +kernel
theorem dX2_copyRegister_45 : decode cX2_copyRegister 45 = .ok (.invokevirtual 62, 3) := by decide +kernel
theorem dX2_copyRegister_48 : decode cX2_copyRegister 48 = .ok (.invokevirtual 65, 3) := by decide +kernel
theorem dX2_copyRegister_51 : decode cX2_copyRegister 51 = .ok (.iload_n 3, 1) := by decide +kernel
theorem dX2_copyRegister_52 : decode cX2_copyRegister 52 = .ok (.ireturn, 1) := by decide +kernel
theorem dX2_forgetRegister_0 : decode cX2_forgetRegister 0 = .ok (.iload_n 1, 1) := by decide +kernel
theorem dX2_forgetRegister_1 : decode cX2_forgetRegister 1 = .ok (.invokestatic 23, 3) := by decide +kernel
theorem dX2_forgetRegister_4 : decode cX2_forgetRegister 4 = .ok (.ifCond .ne 6, 3) := by decide +kernel
theorem dX2_forgetRegister_7 : decode cX2_forgetRegister 7 = .ok (.bipush (-2), 2) := by decide +kernel
theorem dX2_forgetRegister_9 : decode cX2_forgetRegister 9 = .ok (.ireturn, 1) := by decide +kernel
theorem dX2_forgetRegister_10 : decode cX2_forgetRegister 10 = .ok (.aload_n 0, 1) := by decide +kernel
theorem dX2_forgetRegister_11 : decode cX2_forgetRegister 11 = .ok (.getfield 9, 3) := by decide +kernel
theorem dX2_forgetRegister_14 : decode cX2_forgetRegister 14 = .ok (.iload_n 1, 1) := by decide +kernel
theorem dX2_forgetRegister_15 : decode cX2_forgetRegister 15 = .ok (.invokevirtual 59, 3) := by decide +kernel
theorem dX2_forgetRegister_18 : decode cX2_forgetRegister 18 = .ok (.istore_n 2, 1) := by decide +kernel
theorem dX2_forgetRegister_19 : decode cX2_forgetRegister 19 = .ok (.aload_n 0, 1) := by decide +kernel
theorem dX2_forgetRegister_20 : decode cX2_forgetRegister 20 = .ok (.getfield 9, 3) := by decide +kernel
theorem dX2_forgetRegister_23 : decode cX2_forgetRegister 23 = .ok (.iload_n 1, 1) := by decide +kernel
theorem dX2_forgetRegister_24 : decode cX2_forgetRegister 24 = .ok (.iconst 0, 1) := by decide +kernel
theorem dX2_forgetRegister_25 : decode cX2_forgetRegister 25 = .ok (.iconst (-1), 1) := by decide +kernel
theorem dX2_forgetRegister_26 : decode cX2_forgetRegister 26 = .ok (.iconst (-1), 1) := by decide +kernel
theorem dX2_forgetRegister_27 : decode cX2_forgetRegister 27 = .ok (.invokevirtual 65, 3) := by decide +kernel
theorem dX2_forgetRegister_30 : decode cX2_forgetRegister 30 = .ok (.iload_n 2, 1) := by decide +kernel
theorem dX2_forgetRegister_31 : decode cX2_forgetRegister 31 = .ok (.ireturn, 1) := by decide +kernel
theorem dX2_changeBudget_0 : decode cX2_changeBudget 0 = .ok (.iload_n 1, 1) := by decide +kernel
theorem dX2_changeBudget_1 : decode cX2_changeBudget 1 = .ok (.iconst 1, 1) := by decide +kernel
theorem dX2_changeBudget_2 : decode cX2_changeBudget 2 = .ok (.if_icmp .lt 9, 3) := by decide +kernel
theorem dX2_changeBudget_5 : decode cX2_changeBudget 5 = .ok (.iload_n 1, 1) := by decide +kernel
theorem dX2_changeBudget_6 : decode cX2_changeBudget 6 = .ok (.bipush 60, 2) := by decide +kernel
theorem dX2_changeBudget_8 : decode cX2_changeBudget 8 = .ok (.if_icmp .le 6, 3) := by decide +kernel
theorem dX2_changeBudget_11 : decode cX2_changeBudget 11 = .ok (.bipush (-2), 2) := by decide +kernel
theorem dX2_changeBudget_13 : decode cX2_changeBudget 13 = .ok (.ireturn, 1) := by decide +kernel
theorem dX2_changeBudget_14 : decode cX2_changeBudget 14 = .ok (.aload_n 0, 1) := by decide +kernel
theorem dX2_changeBudget_15 : decode cX2_changeBudget 15 = .ok (.getfield 9, 3) := by decide +kernel
theorem dX2_changeBudget_18 : decode cX2_changeBudget 18 = .ok (.getfield 69, 3) := by decide +kernel
theorem dX2_changeBudget_21 : decode cX2_changeBudget 21 = .ok (.istore_n 2, 1) := by decide +kernel
theorem dX2_changeBudget_22 : decode cX2_changeBudget 22 = .ok (.aload_n 0, 1) := by decide +kernel
theorem dX2_changeBudget_23 : decode cX2_changeBudget 23 = .ok (.getfield 9, 3) := by decide +kernel
theorem dX2_changeBudget_26 : decode cX2_changeBudget 26 = .ok (.iload_n 1, 1) := by decide +kernel
theorem dX2_changeBudget_27 : decode cX2_changeBudget 27 = .ok (.putfield 69, 3) := by decide +kernel
theorem dX2_changeBudget_30 : decode cX2_changeBudget 30 = .ok (.iload_n 2, 1) := by decide +kernel
theorem dX2_changeBudget_31 : decode cX2_changeBudget 31 = .ok (.ireturn, 1) := by decide +kernel
theorem dX2_moveRegister_0 : decode cX2_moveRegister 0 = .ok (.iload_n 1, 1) := by decide +kernel
theorem dX2_moveRegister_1 : decode cX2_moveRegister 1 = .ok (.invokestatic 23, 3) := by decide +kernel
theorem dX2_moveRegister_4 : decode cX2_moveRegister 4 = .ok (.ifCond .eq 15, 3) := by decide +kernel
theorem dX2_moveRegister_7 : decode cX2_moveRegister 7 = .ok (.iload_n 2, 1) := by decide +kernel
theorem dX2_moveRegister_8 : decode cX2_moveRegister 8 = .ok (.bipush (-12), 2) := by decide +kernel
theorem dX2_moveRegister_10 : decode cX2_moveRegister 10 = .ok (.if_icmp .lt 9, 3) := by decide +kernel
theorem dX2_moveRegister_13 : decode cX2_moveRegister 13 = .ok (.iload_n 2, 1) := by decide +kernel
theorem dX2_moveRegister_14 : decode cX2_moveRegister 14 = .ok (.bipush 12, 2) := by decide +kernel
theorem dX2_moveRegister_16 : decode cX2_moveRegister 16 = .ok (.if_icmp .le 6, 3) := by decide +kernel
theorem dX2_moveRegister_19 : decode cX2_moveRegister 19 = .ok (.bipush (-2), 2) := by decide +kernel
theorem dX2_moveRegister_21 : decode cX2_moveRegister 21 = .ok (.ireturn, 1) := by decide +kernel
theorem dX2_moveRegister_22 : decode cX2_moveRegister 22 = .ok (.aload_n 0, 1) := by decide +kernel
theorem dX2_moveRegister_23 : decode cX2_moveRegister 23 = .ok (.getfield 9, 3) := by decide +kernel
theorem dX2_moveRegister_26 : decode cX2_moveRegister 26 = .ok (.iload_n 1, 1) := by decide +kernel
theorem dX2_moveRegister_27 : decode cX2_moveRegister 27 = .ok (.invokevirtual 59, 3) := by decide +kernel
theorem dX2_moveRegister_30 : decode cX2_moveRegister 30 = .ok (.istore_n 3, 1) := by decide +kernel
theorem dX2_moveRegister_31 : decode cX2_moveRegister 31 = .ok (.iload_n 3, 1) := by decide +kernel
theorem dX2_moveRegister_32 : decode cX2_moveRegister 32 = .ok (.ifCond .ne 6, 3) := by decide +kernel
theorem dX2_moveRegister_35 : decode cX2_moveRegister 35 = .ok (.bipush (-11), 2) := by decide +kernel
theorem dX2_moveRegister_37 : decode cX2_moveRegister 37 = .ok (.ireturn, 1) := by decide +kernel
theorem dX2_moveRegister_38 : decode cX2_moveRegister 38 = .ok (.iload_n 3, 1) := by decide +kernel
theorem dX2_moveRegister_39 : decode cX2_moveRegister 39 = .ok (.iconst 1, 1) := by decide +kernel
theorem dX2_moveRegister_40 : decode cX2_moveRegister 40 = .ok (.if_icmp .ne 12, 3) := by decide +kernel
theorem dX2_moveRegister_43 : decode cX2_moveRegister 43 = .ok (.aload_n 0, 1) := by decide +kernel
theorem dX2_moveRegister_44 : decode cX2_moveRegister 44 = .ok (.iload_n 1, 1) := by decide +kernel
theorem dX2_moveRegister_45 : decode cX2_moveRegister 45 = .ok (.iload_n 2, 1) := by decide +kernel
theorem dX2_moveRegister_46 : decode cX2_moveRegister 46 = .ok (.invokevirtual 72, 3) := by decide +kernel
theorem dX2_moveRegister_49 : decode cX2_moveRegister 49 = .ok (.goto 9, 3) := by decide +kernel
theorem dX2_moveRegister_52 : decode cX2_moveRegister 52 = .ok (.aload_n 0, 1) := by decide +kernel
theorem dX2_moveRegister_53 : decode cX2_moveRegister 53 = .ok (.iload_n 1, 1) := by decide +kernel
theorem dX2_moveRegister_54 : decode cX2_moveRegister 54 = .ok (.iload_n 2, 1) := by decide +kernel
theorem dX2_moveRegister_55 : decode cX2_moveRegister 55 = .ok (.invokevirtual 76, 3) := by decide +kernel
theorem dX2_moveRegister_58 : decode cX2_moveRegister 58 = .ok (.ireturn, 1) := by decide +kernel
theorem dX2_moveNumber_0 : decode cX2_moveNumber 0 = .ok (.aload_n 0, 1) := by decide +kernel
theorem dX2_moveNumber_1 : decode cX2_moveNumber 1 = .ok (.getfield 9, 3) := by decide +kernel
theorem dX2_moveNumber_4 : decode cX2_moveNumber 4 = .ok (.iload_n 1, 1) := by decide +kernel
theorem dX2_moveNumber_5 : decode cX2_moveNumber 5 = .ok (.invokevirtual 45, 3) := by decide +kernel
theorem dX2_moveNumber_8 : decode cX2_moveNumber 8 = .ok (.iload_n 2, 1) := by decide +kernel
theorem dX2_moveNumber_9 : decode cX2_moveNumber 9 = .ok (.iadd, 1) := by decide +kernel
theorem dX2_moveNumber_10 : decode cX2_moveNumber 10 = .ok (.ldc 54, 2) := by decide +kernel
theorem dX2_moveNumber_12 : decode cX2_moveNumber 12 = .ok (.invokestatic 79, 3) := by decide +kernel
theorem dX2_moveNumber_15 : decode cX2_moveNumber 15 = .ok (.istore_n 3, 1) := by decide +kernel
theorem dX2_moveNumber_16 : decode cX2_moveNumber 16 = .ok (.aload_n 0, 1) := by decide +kernel
theorem dX2_moveNumber_17 : decode cX2_moveNumber 17 = .ok (.getfield 9, 3) := by decide +kernel
theorem dX2_moveNumber_20 : decode cX2_moveNumber 20 = .ok (.iload_n 1, 1) := by decide +kernel
theorem dX2_moveNumber_21 : decode cX2_moveNumber 21 = .ok (.iload_n 3, 1) := by decide +kernel
theorem dX2_moveNumber_22 : decode cX2_moveNumber 22 = .ok (.invokevirtual 55, 3) := by decide +kernel
theorem dX2_moveNumber_25 : decode cX2_moveNumber 25 = .ok (.iload_n 3, 1) := by decide +kernel
theorem dX2_moveNumber_26 : decode cX2_moveNumber 26 = .ok (.ireturn, 1) := by decide +kernel
theorem dX2_movePointer_0 : decode cX2_movePointer 0 = .ok (.aload_n 0, 1) := by decide +kernel
theorem dX2_movePointer_1 : decode cX2_movePointer 1 = .ok (.getfield 9, 3) := by decide +kernel
theorem dX2_movePointer_4 : decode cX2_movePointer 4 = .ok (.iload_n 1, 1) := by decide +kernel
theorem dX2_movePointer_5 : decode cX2_movePointer 5 = .ok (.invokevirtual 45, 3) := by decide +kernel
theorem dX2_movePointer_8 : decode cX2_movePointer 8 = .ok (.istore_n 3, 1) := by decide +kernel
theorem dX2_movePointer_9 : decode cX2_movePointer 9 = .ok (.aload_n 0, 1) := by decide +kernel
theorem dX2_movePointer_10 : decode cX2_movePointer 10 = .ok (.getfield 9, 3) := by decide +kernel
theorem dX2_movePointer_13 : decode cX2_movePointer 13 = .ok (.iload_n 3, 1) := by decide +kernel
theorem dX2_movePointer_14 : decode cX2_movePointer 14 = .ok (.invokevirtual 84, 3) := by decide +kernel
theorem dX2_movePointer_17 : decode cX2_movePointer 17 = .ok (.ifCond .ne 6, 3) := by decide +kernel
theorem dX2_movePointer_20 : decode cX2_movePointer 20 = .ok (.bipush (-13), 2) := by decide +kernel
theorem dX2_movePointer_22 : decode cX2_movePointer 22 = .ok (.ireturn, 1) := by decide +kernel
theorem dX2_movePointer_23 : decode cX2_movePointer 23 = .ok (.aload_n 0, 1) := by decide +kernel
theorem dX2_movePointer_24 : decode cX2_movePointer 24 = .ok (.getfield 9, 3) := by decide +kernel
theorem dX2_movePointer_27 : decode cX2_movePointer 27 = .ok (.iload_n 1, 1) := by decide +kernel
theorem dX2_movePointer_28 : decode cX2_movePointer 28 = .ok (.invokevirtual 62, 3) := by decide +kernel
theorem dX2_movePointer_31 : decode cX2_movePointer 31 = .ok (.iload_n 2, 1) := by decide +kernel
theorem dX2_movePointer_32 : decode cX2_movePointer 32 = .ok (.iadd, 1) := by decide +kernel
theorem dX2_movePointer_33 : decode cX2_movePointer 33 = .ok (.istore 4, 2) := by decide +kernel
theorem dX2_movePointer_35 : decode cX2_movePointer 35 = .ok (.iload 4, 2) := by decide +kernel
theorem dX2_movePointer_37 : decode cX2_movePointer 37 = .ok (.ifCond .lt 16, 3) := by decide +kernel
theorem dX2_movePointer_40 : decode cX2_movePointer 40 = .ok (.iload 4, 2) := by decide +kernel
theorem dX2_movePointer_42 : decode cX2_movePointer 42 = .ok (.aload_n 0, 1) := by decide +kernel
theorem dX2_movePointer_43 : decode cX2_movePointer 43 = .ok (.getfield 9, 3) := by decide +kernel
theorem dX2_movePointer_46 : decode cX2_movePointer 46 = .ok (.iload_n 3, 1) := by decide +kernel
theorem dX2_movePointer_47 : decode cX2_movePointer 47 = .ok (.invokevirtual 87, 3) := by decide +kernel
theorem dX2_movePointer_50 : decode cX2_movePointer 50 = .ok (.if_icmp .le 6, 3) := by decide +kernel
theorem dX2_movePointer_53 : decode cX2_movePointer 53 = .ok (.bipush (-15), 2) := by decide +kernel
theorem dX2_movePointer_55 : decode cX2_movePointer 55 = .ok (.ireturn, 1) := by decide +kernel
theorem dX2_movePointer_56 : decode cX2_movePointer 56 = .ok (.aload_n 0, 1) := by decide +kernel
theorem dX2_movePointer_57 : decode cX2_movePointer 57 = .ok (.getfield 9, 3) := by decide +kernel
theorem dX2_movePointer_60 : decode cX2_movePointer 60 = .ok (.iload_n 1, 1) := by decide +kernel
theorem dX2_movePointer_61 : decode cX2_movePointer 61 = .ok (.iload_n 3, 1) := by decide +kernel
theorem dX2_movePointer_62 : decode cX2_movePointer 62 = .ok (.iload 4, 2) := by decide +kernel
theorem dX2_movePointer_64 : decode cX2_movePointer 64 = .ok (.invokevirtual 37, 3) := by decide +kernel
theorem dX2_movePointer_67 : decode cX2_movePointer 67 = .ok (.iload 4, 2) := by decide +kernel
theorem dX2_movePointer_69 : decode cX2_movePointer 69 = .ok (.ireturn, 1) := by decide +kernel
theorem dX2_storeBytes_0 : decode cX2_storeBytes 0 = .ok (.iload_n 1, 1) := by decide +kernel
theorem dX2_storeBytes_1 : decode cX2_storeBytes 1 = .ok (.invokestatic 23, 3) := by decide +kernel
theorem dX2_storeBytes_4 : decode cX2_storeBytes 4 = .ok (.ifCond .eq 20, 3) := by decide +kernel
theorem dX2_storeBytes_7 : decode cX2_storeBytes 7 = .ok (.iload_n 2, 1) := by decide +kernel
theorem dX2_storeBytes_8 : decode cX2_storeBytes 8 = .ok (.invokestatic 23, 3) := by decide +kernel
theorem dX2_storeBytes_11 : decode cX2_storeBytes 11 = .ok (.ifCond .eq 13, 3) := by decide +kernel
theorem dX2_storeBytes_14 : decode cX2_storeBytes 14 = .ok (.iload_n 3, 1) := by decide +kernel
theorem dX2_storeBytes_15 : decode cX2_storeBytes 15 = .ok (.iconst 1, 1) := by decide +kernel
theorem dX2_storeBytes_16 : decode cX2_storeBytes 16 = .ok (.if_icmp .lt 8, 3) := by decide +kernel
theorem dX2_storeBytes_19 : decode cX2_storeBytes 19 = .ok (.iload_n 3, 1) := by decide +kernel
theorem dX2_storeBytes_20 : decode cX2_storeBytes 20 = .ok (.iconst 2, 1) := by decide +kernel
theorem dX2_storeBytes_21 : decode cX2_storeBytes 21 = .ok (.if_icmp .le 6, 3) := by decide +kernel
theorem dX2_storeBytes_24 : decode cX2_storeBytes 24 = .ok (.bipush (-2), 2) := by decide +kernel
theorem dX2_storeBytes_26 : decode cX2_storeBytes 26 = .ok (.ireturn, 1) := by decide +kernel
theorem dX2_storeBytes_27 : decode cX2_storeBytes 27 = .ok (.aload_n 0, 1) := by decide +kernel
theorem dX2_storeBytes_28 : decode cX2_storeBytes 28 = .ok (.iload_n 1, 1) := by decide +kernel
theorem dX2_storeBytes_29 : decode cX2_storeBytes 29 = .ok (.iload_n 3, 1) := by decide +kernel
theorem dX2_storeBytes_30 : decode cX2_storeBytes 30 = .ok (.invokevirtual 90, 3) := by decide +kernel
theorem dX2_storeBytes_33 : decode cX2_storeBytes 33 = .ok (.istore 4, 2) := by decide +kernel
theorem dX2_storeBytes_35 : decode cX2_storeBytes 35 = .ok (.iload 4, 2) := by decide +kernel
theorem dX2_storeBytes_37 : decode cX2_storeBytes 37 = .ok (.ifCond .eq 6, 3) := by decide +kernel
theorem dX2_storeBytes_40 : decode cX2_storeBytes 40 = .ok (.iload 4, 2) := by decide +kernel
theorem dX2_storeBytes_42 : decode cX2_storeBytes 42 = .ok (.ireturn, 1) := by decide +kernel
theorem dX2_storeBytes_43 : decode cX2_storeBytes 43 = .ok (.aload_n 0, 1) := by decide +kernel
theorem dX2_storeBytes_44 : decode cX2_storeBytes 44 = .ok (.getfield 9, 3) := by decide +kernel
theorem dX2_storeBytes_47 : decode cX2_storeBytes 47 = .ok (.iload_n 2, 1) := by decide +kernel
theorem dX2_storeBytes_48 : decode cX2_storeBytes 48 = .ok (.invokevirtual 59, 3) := by decide +kernel
theorem dX2_storeBytes_51 : decode cX2_storeBytes 51 = .ok (.istore 5, 2) := by decide +kernel
theorem dX2_storeBytes_53 : decode cX2_storeBytes 53 = .ok (.iload 5, 2) := by decide +kernel
theorem dX2_storeBytes_55 : decode cX2_storeBytes 55 = .ok (.ifCond .ne 6, 3) := by decide +kernel
theorem dX2_storeBytes_58 : decode cX2_storeBytes 58 = .ok (.bipush (-11), 2) := by decide +kernel
theorem dX2_storeBytes_60 : decode cX2_storeBytes 60 = .ok (.ireturn, 1) := by decide +kernel
theorem dX2_storeBytes_61 : decode cX2_storeBytes 61 = .ok (.iload_n 3, 1) := by decide +kernel
theorem dX2_storeBytes_62 : decode cX2_storeBytes 62 = .ok (.iconst 1, 1) := by decide +kernel
theorem dX2_storeBytes_63 : decode cX2_storeBytes 63 = .ok (.if_icmp .ne 12, 3) := by decide +kernel
theorem dX2_storeBytes_66 : decode cX2_storeBytes 66 = .ok (.iload 5, 2) := by decide +kernel
theorem dX2_storeBytes_68 : decode cX2_storeBytes 68 = .ok (.iconst 2, 1) := by decide +kernel
theorem dX2_storeBytes_69 : decode cX2_storeBytes 69 = .ok (.if_icmp .ne 6, 3) := by decide +kernel
theorem dX2_storeBytes_72 : decode cX2_storeBytes 72 = .ok (.bipush (-17), 2) := by decide +kernel
theorem dX2_storeBytes_74 : decode cX2_storeBytes 74 = .ok (.ireturn, 1) := by decide +kernel
theorem dX2_storeBytes_75 : decode cX2_storeBytes 75 = .ok (.aload_n 0, 1) := by decide +kernel
theorem dX2_storeBytes_76 : decode cX2_storeBytes 76 = .ok (.getfield 9, 3) := by decide +kernel
theorem dX2_storeBytes_79 : decode cX2_storeBytes 79 = .ok (.iload_n 1, 1) := by decide +kernel
theorem dX2_storeBytes_80 : decode cX2_storeBytes 80 = .ok (.invokevirtual 45, 3) := by decide +kernel
theorem dX2_storeBytes_83 : decode cX2_storeBytes 83 = .ok (.istore 6, 2) := by decide +kernel
theorem dX2_storeBytes_85 : decode cX2_storeBytes 85 = .ok (.aload_n 0, 1) := by decide +kernel
theorem dX2_storeBytes_86 : decode cX2_storeBytes 86 = .ok (.getfield 9, 3) := by decide +kernel
theorem dX2_storeBytes_89 : decode cX2_storeBytes 89 = .ok (.iload_n 1, 1) := by decide +kernel
theorem dX2_storeBytes_90 : decode cX2_storeBytes 90 = .ok (.invokevirtual 62, 3) := by decide +kernel
theorem dX2_storeBytes_93 : decode cX2_storeBytes 93 = .ok (.istore 7, 2) := by decide +kernel
theorem dX2_storeBytes_95 : decode cX2_storeBytes 95 = .ok (.aload_n 0, 1) := by decide +kernel
theorem dX2_storeBytes_96 : decode cX2_storeBytes 96 = .ok (.iload 6, 2) := by decide +kernel
theorem dX2_storeBytes_98 : decode cX2_storeBytes 98 = .ok (.iload 7, 2) := by decide +kernel
theorem dX2_storeBytes_100 : decode cX2_storeBytes 100 = .ok (.iload_n 3, 1) := by decide +kernel
theorem dX2_storeBytes_101 : decode cX2_storeBytes 101 = .ok (.invokevirtual 93, 3) := by decide +kernel
theorem dX2_storeBytes_104 : decode cX2_storeBytes 104 = .ok (.aload_n 0, 1) := by decide +kernel
theorem dX2_storeBytes_105 : decode cX2_storeBytes 105 = .ok (.iload 6, 2) := by decide +kernel
theorem dX2_storeBytes_107 : decode cX2_storeBytes 107 = .ok (.iload 7, 2) := by decide +kernel
theorem dX2_storeBytes_109 : decode cX2_storeBytes 109 = .ok (.iload_n 2, 1) := by decide +kernel
theorem dX2_storeBytes_110 : decode cX2_storeBytes 110 = .ok (.iload_n 3, 1) := by decide +kernel
theorem dX2_storeBytes_111 : decode cX2_storeBytes 111 = .ok (.invokevirtual 96, 3) := by decide +kernel
theorem dX2_storeBytes_114 : decode cX2_storeBytes 114 = .ok (.iload 7, 2) := by decide +kernel
theorem dX2_storeBytes_116 : decode cX2_storeBytes 116 = .ok (.ireturn, 1) := by decide +kernel
theorem dX2_putValue_0 : decode cX2_putValue 0 = .ok (.aload_n 0, 1) := by decide +kernel
theorem dX2_putValue_1 : decode cX2_putValue 1 = .ok (.getfield 9, 3) := by decide +kernel
theorem dX2_putValue_4 : decode cX2_putValue 4 = .ok (.iload_n 3, 1) := by decide +kernel
theorem dX2_putValue_5 : decode cX2_putValue 5 = .ok (.invokevirtual 45, 3) := by decide +kernel
theorem dX2_putValue_8 : decode cX2_putValue 8 = .ok (.istore 5, 2) := by decide +kernel
theorem dX2_putValue_10 : decode cX2_putValue 10 = .ok (.aload_n 0, 1) := by decide +kernel
theorem dX2_putValue_11 : decode cX2_putValue 11 = .ok (.getfield 9, 3) := by decide +kernel
theorem dX2_putValue_14 : decode cX2_putValue 14 = .ok (.iload_n 3, 1) := by decide +kernel
theorem dX2_putValue_15 : decode cX2_putValue 15 = .ok (.invokevirtual 59, 3) := by decide +kernel
theorem dX2_putValue_18 : decode cX2_putValue 18 = .ok (.iconst 2, 1) := by decide +kernel
theorem dX2_putValue_19 : decode cX2_putValue 19 = .ok (.if_icmp .ne 40, 3) := by decide +kernel
theorem dX2_putValue_22 : decode cX2_putValue 22 = .ok (.aload_n 0, 1) := by decide +kernel
theorem dX2_putValue_23 : decode cX2_putValue 23 = .ok (.getfield 9, 3) := by decide +kernel
theorem dX2_putValue_26 : decode cX2_putValue 26 = .ok (.iload_n 1, 1) := by decide +kernel
theorem dX2_putValue_27 : decode cX2_putValue 27 = .ok (.iload_n 2, 1) := by decide +kernel
theorem dX2_putValue_28 : decode cX2_putValue 28 = .ok (.iload 5, 2) := by decide +kernel
theorem dX2_putValue_30 : decode cX2_putValue 30 = .ok (.aload_n 0, 1) := by decide +kernel
theorem dX2_putValue_31 : decode cX2_putValue 31 = .ok (.getfield 9, 3) := by decide +kernel
theorem dX2_putValue_34 : decode cX2_putValue 34 = .ok (.iload_n 3, 1) := by decide +kernel
theorem dX2_putValue_35 : decode cX2_putValue 35 = .ok (.invokevirtual 62, 3) := by decide +kernel
theorem dX2_putValue_38 : decode cX2_putValue 38 = .ok (.invokestatic 99, 3) := by decide +kernel
theorem dX2_putValue_41 : decode cX2_putValue 41 = .ok (.invokevirtual 102, 3) := by decide +kernel
theorem dX2_putValue_44 : decode cX2_putValue 44 = .ok (.aload_n 0, 1) := by decide +kernel
theorem dX2_putValue_45 : decode cX2_putValue 45 = .ok (.getfield 9, 3) := by decide +kernel
theorem dX2_putValue_48 : decode cX2_putValue 48 = .ok (.iload_n 1, 1) := by decide +kernel
theorem dX2_putValue_49 : decode cX2_putValue 49 = .ok (.iload_n 2, 1) := by decide +kernel
theorem dX2_putValue_50 : decode cX2_putValue 50 = .ok (.iconst 1, 1) := by decide +kernel
theorem dX2_putValue_51 : decode cX2_putValue 51 = .ok (.iadd, 1) := by decide +kernel
theorem dX2_putValue_52 : decode cX2_putValue 52 = .ok (.sipush 999, 3) := by decide +kernel
theorem dX2_putValue_55 : decode cX2_putValue 55 = .ok (.invokevirtual 102, 3) := by decide +kernel
theorem dX2_putValue_58 : decode cX2_putValue 58 = .ok (.return_, 1) := by decide +kernel
theorem dX2_putValue_59 : decode cX2_putValue 59 = .ok (.aload_n 0, 1) := by decide +kernel
theorem dX2_putValue_60 : decode cX2_putValue 60 = .ok (.getfield 9, 3) := by decide +kernel
theorem dX2_putValue_63 : decode cX2_putValue 63 = .ok (.iload_n 1, 1) := by decide +kernel
theorem dX2_putValue_64 : decode cX2_putValue 64 = .ok (.iload_n 2, 1) := by decide +kernel
theorem dX2_putValue_65 : decode cX2_putValue 65 = .ok (.iload 5, 2) := by decide +kernel
theorem dX2_putValue_67 : decode cX2_putValue 67 = .ok (.sipush 255, 3) := by decide +kernel
theorem dX2_putValue_70 : decode cX2_putValue 70 = .ok (.iand, 1) := by decide +kernel
theorem dX2_putValue_71 : decode cX2_putValue 71 = .ok (.invokevirtual 102, 3) := by decide +kernel
theorem dX2_putValue_74 : decode cX2_putValue 74 = .ok (.iload 4, 2) := by decide +kernel
theorem dX2_putValue_76 : decode cX2_putValue 76 = .ok (.iconst 2, 1) := by decide +kernel
theorem dX2_putValue_77 : decode cX2_putValue 77 = .ok (.if_icmp .ne 23, 3) := by decide +kernel
theorem dX2_putValue_80 : decode cX2_putValue 80 = .ok (.aload_n 0, 1) := by decide +kernel
theorem dX2_putValue_81 : decode cX2_putValue 81 = .ok (.getfield 9, 3) := by decide +kernel
theorem dX2_putValue_84 : decode cX2_putValue 84 = .ok (.iload_n 1, 1) := by decide +kernel
theorem dX2_putValue_85 : decode cX2_putValue 85 = .ok (.iload_n 2, 1) := by decide +kernel
theorem dX2_putValue_86 : decode cX2_putValue 86 = .ok (.iconst 1, 1) := by decide +kernel
theorem dX2_putValue_87 : decode cX2_putValue 87 = .ok (.iadd, 1) := by decide +kernel
theorem dX2_putValue_88 : decode cX2_putValue 88 = .ok (.iload 5, 2) := by decide +kernel
theorem dX2_putValue_90 : decode cX2_putValue 90 = .ok (.bipush 8, 2) := by decide +kernel
theorem dX2_putValue_92 : decode cX2_putValue 92 = .ok (.ishr, 1) := by decide +kernel
theorem dX2_putValue_93 : decode cX2_putValue 93 = .ok (.sipush 255, 3) := by decide +kernel
theorem dX2_putValue_96 : decode cX2_putValue 96 = .ok (.iand, 1) := by decide +kernel
theorem dX2_putValue_97 : decode cX2_putValue 97 = .ok (.invokevirtual 102, 3) := by decide +kernel
theorem dX2_putValue_100 : decode cX2_putValue 100 = .ok (.return_, 1) := by decide +kernel
theorem dX2_loadBytes_0 : decode cX2_loadBytes 0 = .ok (.iload_n 1, 1) := by decide +kernel
theorem dX2_loadBytes_1 : decode cX2_loadBytes 1 = .ok (.invokestatic 23, 3) := by decide +kernel
theorem dX2_loadBytes_4 : decode cX2_loadBytes 4 = .ok (.ifCond .eq 20, 3) := by decide +kernel
theorem dX2_loadBytes_7 : decode cX2_loadBytes 7 = .ok (.iload_n 2, 1) := by decide +kernel
theorem dX2_loadBytes_8 : decode cX2_loadBytes 8 = .ok (.invokestatic 23, 3) := by decide +kernel
theorem dX2_loadBytes_11 : decode cX2_loadBytes 11 = .ok (.ifCond .eq 13, 3) := by decide +kernel
theorem dX2_loadBytes_14 : decode cX2_loadBytes 14 = .ok (.iload_n 3, 1) := by decide +kernel
theorem dX2_loadBytes_15 : decode cX2_loadBytes 15 = .ok (.iconst 1, 1) := by decide +kernel
theorem dX2_loadBytes_16 : decode cX2_loadBytes 16 = .ok (.if_icmp .lt 8, 3) := by decide +kernel
theorem dX2_loadBytes_19 : decode cX2_loadBytes 19 = .ok (.iload_n 3, 1) := by decide +kernel
theorem dX2_loadBytes_20 : decode cX2_loadBytes 20 = .ok (.iconst 2, 1) := by decide +kernel
theorem dX2_loadBytes_21 : decode cX2_loadBytes 21 = .ok (.if_icmp .le 6, 3) := by decide +kernel
theorem dX2_loadBytes_24 : decode cX2_loadBytes 24 = .ok (.bipush (-2), 2) := by decide +kernel
theorem dX2_loadBytes_26 : decode cX2_loadBytes 26 = .ok (.ireturn, 1) := by decide +kernel
theorem dX2_loadBytes_27 : decode cX2_loadBytes 27 = .ok (.aload_n 0, 1) := by decide +kernel
theorem dX2_loadBytes_28 : decode cX2_loadBytes 28 = .ok (.iload_n 2, 1) := by decide +kernel
theorem dX2_loadBytes_29 : decode cX2_loadBytes 29 = .ok (.iload_n 3, 1) := by decide +kernel
theorem dX2_loadBytes_30 : decode cX2_loadBytes 30 = .ok (.invokevirtual 105, 3) := by decide +kernel
theorem dX2_loadBytes_33 : decode cX2_loadBytes 33 = .ok (.istore 4, 2) := by decide +kernel
theorem dX2_loadBytes_35 : decode cX2_loadBytes 35 = .ok (.iload 4, 2) := by decide +kernel
theorem dX2_loadBytes_37 : decode cX2_loadBytes 37 = .ok (.ifCond .eq 6, 3) := by decide +kernel
theorem dX2_loadBytes_40 : decode cX2_loadBytes 40 = .ok (.iload 4, 2) := by decide +kernel
theorem dX2_loadBytes_42 : decode cX2_loadBytes 42 = .ok (.ireturn, 1) := by decide +kernel
theorem dX2_loadBytes_43 : decode cX2_loadBytes 43 = .ok (.aload_n 0, 1) := by decide +kernel
theorem dX2_loadBytes_44 : decode cX2_loadBytes 44 = .ok (.getfield 9, 3) := by decide +kernel
theorem dX2_loadBytes_47 : decode cX2_loadBytes 47 = .ok (.aload_n 0, 1) := by decide +kernel
theorem dX2_loadBytes_48 : decode cX2_loadBytes 48 = .ok (.getfield 9, 3) := by decide +kernel
theorem dX2_loadBytes_51 : decode cX2_loadBytes 51 = .ok (.iload_n 2, 1) := by decide +kernel
theorem dX2_loadBytes_52 : decode cX2_loadBytes 52 = .ok (.invokevirtual 45, 3) := by decide +kernel
theorem dX2_loadBytes_55 : decode cX2_loadBytes 55 = .ok (.aload_n 0, 1) := by decide +kernel
theorem dX2_loadBytes_56 : decode cX2_loadBytes 56 = .ok (.getfield 9, 3) := by decide +kernel
theorem dX2_loadBytes_59 : decode cX2_loadBytes 59 = .ok (.iload_n 2, 1) := by decide +kernel
theorem dX2_loadBytes_60 : decode cX2_loadBytes 60 = .ok (.invokevirtual 62, 3) := by decide +kernel
theorem dX2_loadBytes_63 : decode cX2_loadBytes 63 = .ok (.invokevirtual 108, 3) := by decide +kernel
theorem dX2_loadBytes_66 : decode cX2_loadBytes 66 = .ok (.istore 5, 2) := by decide +kernel
theorem dX2_loadBytes_68 : decode cX2_loadBytes 68 = .ok (.iload_n 3, 1) := by decide +kernel
theorem dX2_loadBytes_69 : decode cX2_loadBytes 69 = .ok (.iconst 2, 1) := by decide +kernel
theorem dX2_loadBytes_70 : decode cX2_loadBytes 70 = .ok (.if_icmp .ne 31, 3) := by decide +kernel
theorem dX2_loadBytes_73 : decode cX2_loadBytes 73 = .ok (.aload_n 0, 1) := by decide +kernel
theorem dX2_loadBytes_74 : decode cX2_loadBytes 74 = .ok (.getfield 9, 3) := by decide +kernel
theorem dX2_loadBytes_77 : decode cX2_loadBytes 77 = .ok (.aload_n 0, 1) := by decide +kernel
theorem dX2_loadBytes_78 : decode cX2_loadBytes 78 = .ok (.getfield 9, 3) := by decide +kernel
theorem dX2_loadBytes_81 : decode cX2_loadBytes 81 = .ok (.iload_n 2, 1) := by decide +kernel
theorem dX2_loadBytes_82 : decode cX2_loadBytes 82 = .ok (.invokevirtual 45, 3) := by decide +kernel
theorem dX2_loadBytes_85 : decode cX2_loadBytes 85 = .ok (.aload_n 0, 1) := by decide +kernel
theorem dX2_loadBytes_86 : decode cX2_loadBytes 86 = .ok (.getfield 9, 3) := by decide +kernel
theorem dX2_loadBytes_89 : decode cX2_loadBytes 89 = .ok (.iload_n 2, 1) := by decide +kernel
theorem dX2_loadBytes_90 : decode cX2_loadBytes 90 = .ok (.invokevirtual 62, 3) := by decide +kernel
theorem dX2_loadBytes_93 : decode cX2_loadBytes 93 = .ok (.iconst 1, 1) := by decide +kernel
theorem dX2_loadBytes_94 : decode cX2_loadBytes 94 = .ok (.iadd, 1) := by decide +kernel
theorem dX2_loadBytes_95 : decode cX2_loadBytes 95 = .ok (.invokevirtual 108, 3) := by decide +kernel
theorem dX2_loadBytes_98 : decode cX2_loadBytes 98 = .ok (.goto 4, 3) := by decide +kernel
theorem dX2_loadBytes_101 : decode cX2_loadBytes 101 = .ok (.iconst 0, 1) := by decide +kernel
theorem dX2_loadBytes_102 : decode cX2_loadBytes 102 = .ok (.istore 6, 2) := by decide +kernel
theorem dX2_loadBytes_104 : decode cX2_loadBytes 104 = .ok (.iload_n 3, 1) := by decide +kernel
theorem dX2_loadBytes_105 : decode cX2_loadBytes 105 = .ok (.iconst 2, 1) := by decide +kernel
theorem dX2_loadBytes_106 : decode cX2_loadBytes 106 = .ok (.if_icmp .ne 31, 3) := by decide +kernel
theorem dX2_loadBytes_109 : decode cX2_loadBytes 109 = .ok (.iload 5, 2) := by decide +kernel
theorem dX2_loadBytes_111 : decode cX2_loadBytes 111 = .ok (.invokestatic 111, 3) := by decide +kernel
theorem dX2_loadBytes_114 : decode cX2_loadBytes 114 = .ok (.ifCond .eq 23, 3) := by decide +kernel
theorem dX2_loadBytes_117 : decode cX2_loadBytes 117 = .ok (.aload_n 0, 1) := by decide +kernel
theorem dX2_loadBytes_118 : decode cX2_loadBytes 118 = .ok (.getfield 9, 3) := by decide +kernel
theorem dX2_loadBytes_121 : decode cX2_loadBytes 121 = .ok (.iload_n 1, 1) := by decide +kernel
theorem dX2_loadBytes_122 : decode cX2_loadBytes 122 = .ok (.iload 5, 2) := by decide +kernel
theorem dX2_loadBytes_124 : decode cX2_loadBytes 124 = .ok (.invokestatic 114, 3) := by decide +kernel
theorem dX2_loadBytes_127 : decode cX2_loadBytes 127 = .ok (.iload 5, 2) := by decide +kernel
theorem dX2_loadBytes_129 : decode cX2_loadBytes 129 = .ok (.invokestatic 117, 3) := by decide +kernel
theorem dX2_loadBytes_132 : decode cX2_loadBytes 132 = .ok (.invokevirtual 37, 3) := by decide +kernel
theorem dX2_loadBytes_135 : decode cX2_loadBytes 135 = .ok (.iconst 2, 1) := by decide +kernel
theorem dX2_loadBytes_136 : decode cX2_loadBytes 136 = .ok (.ireturn, 1) := by decide +kernel
theorem dX2_loadBytes_137 : decode cX2_loadBytes 137 = .ok (.iload 5, 2) := by decide +kernel
theorem dX2_loadBytes_139 : decode cX2_loadBytes 139 = .ok (.sipush 999, 3) := by decide +kernel
theorem dX2_loadBytes_142 : decode cX2_loadBytes 142 = .ok (.if_icmp .ge 11, 3) := by decide +kernel
theorem dX2_loadBytes_145 : decode cX2_loadBytes 145 = .ok (.iload 6, 2) := by decide +kernel
theorem dX2_loadBytes_147 : decode cX2_loadBytes 147 = .ok (.sipush 999, 3) := by decide +kernel
theorem dX2_loadBytes_150 : decode cX2_loadBytes 150 = .ok (.if_icmp .lt 6, 3) := by decide +kernel
theorem dX2_loadBytes_153 : decode cX2_loadBytes 153 = .ok (.bipush (-16), 2) := by decide +kernel
theorem dX2_loadBytes_155 : decode cX2_loadBytes 155 = .ok (.ireturn, 1) := by decide +kernel
theorem dX2_loadBytes_156 : decode cX2_loadBytes 156 = .ok (.iload 5, 2) := by decide +kernel
theorem dX2_loadBytes_158 : decode cX2_loadBytes 158 = .ok (.iconst (-1), 1) := by decide +kernel
theorem dX2_loadBytes_159 : decode cX2_loadBytes 159 = .ok (.if_icmp .eq 9, 3) := by decide +kernel
theorem dX2_loadBytes_162 : decode cX2_loadBytes 162 = .ok (.iload 6, 2) := by decide +kernel
theorem dX2_loadBytes_164 : decode cX2_loadBytes 164 = .ok (.iconst (-1), 1) := by decide +kernel
theorem dX2_loadBytes_165 : decode cX2_loadBytes 165 = .ok (.if_icmp .ne 6, 3) := by decide +kernel
theorem dX2_loadBytes_168 : decode cX2_loadBytes 168 = .ok (.bipush (-11), 2) := by decide +kernel
theorem dX2_loadBytes_170 : decode cX2_loadBytes 170 = .ok (.ireturn, 1) := by decide +kernel
theorem dX2_loadBytes_171 : decode cX2_loadBytes 171 = .ok (.aload_n 0, 1) := by decide +kernel
theorem dX2_loadBytes_172 : decode cX2_loadBytes 172 = .ok (.getfield 9, 3) := by decide +kernel
theorem dX2_loadBytes_175 : decode cX2_loadBytes 175 = .ok (.iload_n 1, 1) := by decide +kernel
theorem dX2_loadBytes_176 : decode cX2_loadBytes 176 = .ok (.iload 6, 2) := by decide +kernel
theorem dX2_loadBytes_178 : decode cX2_loadBytes 178 = .ok (.sipush 256, 3) := by decide +kernel
theorem dX2_loadBytes_181 : decode cX2_loadBytes 181 = .ok (.imul, 1) := by decide +kernel
theorem dX2_loadBytes_182 : decode cX2_loadBytes 182 = .ok (.iload 5, 2) := by decide +kernel
theorem dX2_loadBytes_184 : decode cX2_loadBytes 184 = .ok (.iadd, 1) := by decide +kernel
theorem dX2_loadBytes_185 : decode cX2_loadBytes 185 = .ok (.invokevirtual 55, 3) := by decide +kernel
theorem dX2_loadBytes_188 : decode cX2_loadBytes 188 = .ok (.iconst 1, 1) := by decide +kernel
theorem dX2_loadBytes_189 : decode cX2_loadBytes 189 = .ok (.ireturn, 1) := by decide +kernel
theorem dX2_compareRegisters_0 : decode cX2_compareRegisters 0 = .ok (.iload_n 1, 1) := by decide +kernel
theorem dX2_compareRegisters_1 : decode cX2_compareRegisters 1 = .ok (.invokestatic 23, 3) := by decide +kernel
theorem dX2_compareRegisters_4 : decode cX2_compareRegisters 4 = .ok (.ifCond .eq 10, 3) := by decide +kernel
theorem dX2_compareRegisters_7 : decode cX2_compareRegisters 7 = .ok (.iload_n 2, 1) := by decide +kernel
theorem dX2_compareRegisters_8 : decode cX2_compareRegisters 8 = .ok (.invokestatic 23, 3) := by decide +kernel
theorem dX2_compareRegisters_11 : decode cX2_compareRegisters 11 = .ok (.ifCond .ne 6, 3) := by decide +kernel
theorem dX2_compareRegisters_14 : decode cX2_compareRegisters 14 = .ok (.bipush (-2), 2) := by decide +kernel
theorem dX2_compareRegisters_16 : decode cX2_compareRegisters 16 = .ok (.ireturn, 1) := by decide +kernel
theorem dX2_compareRegisters_17 : decode cX2_compareRegisters 17 = .ok (.aload_n 0, 1) := by decide +kernel
theorem dX2_compareRegisters_18 : decode cX2_compareRegisters 18 = .ok (.getfield 9, 3) := by decide +kernel
theorem dX2_compareRegisters_21 : decode cX2_compareRegisters 21 = .ok (.iload_n 1, 1) := by decide +kernel
theorem dX2_compareRegisters_22 : decode cX2_compareRegisters 22 = .ok (.invokevirtual 59, 3) := by decide +kernel
theorem dX2_compareRegisters_25 : decode cX2_compareRegisters 25 = .ok (.istore_n 3, 1) := by decide +kernel
theorem dX2_compareRegisters_26 : decode cX2_compareRegisters 26 = .ok (.iload_n 3, 1) := by decide +kernel
theorem dX2_compareRegisters_27 : decode cX2_compareRegisters 27 = .ok (.ifCond .eq 14, 3) := by decide +kernel
theorem dX2_compareRegisters_30 : decode cX2_compareRegisters 30 = .ok (.aload_n 0, 1) := by decide +kernel
theorem dX2_compareRegisters_31 : decode cX2_compareRegisters 31 = .ok (.getfield 9, 3) := by decide +kernel
theorem dX2_compareRegisters_34 : decode cX2_compareRegisters 34 = .ok (.iload_n 2, 1) := by decide +kernel
theorem dX2_compareRegisters_35 : decode cX2_compareRegisters 35 = .ok (.invokevirtual 59, 3) := by decide +kernel
theorem dX2_compareRegisters_38 : decode cX2_compareRegisters 38 = .ok (.ifCond .ne 6, 3) := by decide +kernel
theorem dX2_compareRegisters_41 : decode cX2_compareRegisters 41 = .ok (.bipush (-11), 2) := by decide +kernel
theorem dX2_compareRegisters_43 : decode cX2_compareRegisters 43 = .ok (.ireturn, 1) := by decide +kernel
theorem dX2_compareRegisters_44 : decode cX2_compareRegisters 44 = .ok (.iload_n 3, 1) := by decide +kernel
theorem dX2_compareRegisters_45 : decode cX2_compareRegisters 45 = .ok (.aload_n 0, 1) := by decide +kernel
theorem dX2_compareRegisters_46 : decode cX2_compareRegisters 46 = .ok (.getfield 9, 3) := by decide +kernel
theorem dX2_compareRegisters_49 : decode cX2_compareRegisters 49 = .ok (.iload_n 2, 1) := by decide +kernel
theorem dX2_compareRegisters_50 : decode cX2_compareRegisters 50 = .ok (.invokevirtual 59, 3) := by decide +kernel
theorem dX2_compareRegisters_53 : decode cX2_compareRegisters 53 = .ok (.if_icmp .eq 6, 3) := by decide +kernel
theorem dX2_compareRegisters_56 : decode cX2_compareRegisters 56 = .ok (.bipush (-17), 2) := by decide +kernel
theorem dX2_compareRegisters_58 : decode cX2_compareRegisters 58 = .ok (.ireturn, 1) := by decide +kernel
theorem dX2_compareRegisters_59 : decode cX2_compareRegisters 59 = .ok (.iload_n 3, 1) := by decide +kernel
theorem dX2_compareRegisters_60 : decode cX2_compareRegisters 60 = .ok (.iconst 1, 1) := by decide +kernel
theorem dX2_compareRegisters_61 : decode cX2_compareRegisters 61 = .ok (.if_icmp .ne 23, 3) := by decide +kernel
theorem dX2_compareRegisters_64 : decode cX2_compareRegisters 64 = .ok (.aload_n 0, 1) := by decide +kernel
theorem dX2_compareRegisters_65 : decode cX2_compareRegisters 65 = .ok (.getfield 9, 3) := by decide +kernel
theorem dX2_compareRegisters_68 : decode cX2_compareRegisters 68 = .ok (.iload_n 1, 1) := by decide +kernel
theorem dX2_compareRegisters_69 : decode cX2_compareRegisters 69 = .ok (.invokevirtual 45, 3) := by decide +kernel
theorem dX2_compareRegisters_72 : decode cX2_compareRegisters 72 = .ok (.aload_n 0, 1) := by decide +kernel
theorem dX2_compareRegisters_73 : decode cX2_compareRegisters 73 = .ok (.getfield 9, 3) := by decide +kernel
theorem dX2_compareRegisters_76 : decode cX2_compareRegisters 76 = .ok (.iload_n 2, 1) := by decide +kernel
theorem dX2_compareRegisters_77 : decode cX2_compareRegisters 77 = .ok (.invokevirtual 45, 3) := by decide +kernel
theorem dX2_compareRegisters_80 : decode cX2_compareRegisters 80 = .ok (.invokestatic 120, 3) := by decide +kernel
theorem dX2_compareRegisters_83 : decode cX2_compareRegisters 83 = .ok (.ireturn, 1) := by decide +kernel
theorem dX2_compareRegisters_84 : decode cX2_compareRegisters 84 = .ok (.aload_n 0, 1) := by decide +kernel
theorem dX2_compareRegisters_85 : decode cX2_compareRegisters 85 = .ok (.getfield 9, 3) := by decide +kernel
theorem dX2_compareRegisters_88 : decode cX2_compareRegisters 88 = .ok (.iload_n 1, 1) := by decide +kernel
theorem dX2_compareRegisters_89 : decode cX2_compareRegisters 89 = .ok (.invokevirtual 45, 3) := by decide +kernel
theorem dX2_compareRegisters_92 : decode cX2_compareRegisters 92 = .ok (.aload_n 0, 1) := by decide +kernel
theorem dX2_compareRegisters_93 : decode cX2_compareRegisters 93 = .ok (.getfield 9, 3) := by decide +kernel
theorem dX2_compareRegisters_96 : decode cX2_compareRegisters 96 = .ok (.iload_n 2, 1) := by decide +kernel
theorem dX2_compareRegisters_97 : decode cX2_compareRegisters 97 = .ok (.invokevirtual 45, 3) := by decide +kernel
theorem dX2_compareRegisters_100 : decode cX2_compareRegisters 100 = .ok (.if_icmp .eq 6, 3) := by decide +kernel
theorem dX2_compareRegisters_103 : decode cX2_compareRegisters 103 = .ok (.bipush (-18), 2) := by decide +kernel
theorem dX2_compareRegisters_105 : decode cX2_compareRegisters 105 = .ok (.ireturn, 1) := by decide +kernel
theorem dX2_compareRegisters_106 : decode cX2_compareRegisters 106 = .ok (.aload_n 0, 1) := by decide +kernel
theorem dX2_compareRegisters_107 : decode cX2_compareRegisters 107 = .ok (.getfield 9, 3) := by decide +kernel
theorem dX2_compareRegisters_110 : decode cX2_compareRegisters 110 = .ok (.iload_n 1, 1) := by decide +kernel
theorem dX2_compareRegisters_111 : decode cX2_compareRegisters 111 = .ok (.invokevirtual 62, 3) := by decide +kernel
theorem dX2_compareRegisters_114 : decode cX2_compareRegisters 114 = .ok (.aload_n 0, 1) := by decide +kernel
theorem dX2_compareRegisters_115 : decode cX2_compareRegisters 115 = .ok (.getfield 9, 3) := by decide +kernel
theorem dX2_compareRegisters_118 : decode cX2_compareRegisters 118 = .ok (.iload_n 2, 1) := by decide +kernel
theorem dX2_compareRegisters_119 : decode cX2_compareRegisters 119 = .ok (.invokevirtual 62, 3) := by decide +kernel
theorem dX2_compareRegisters_122 : decode cX2_compareRegisters 122 = .ok (.invokestatic 120, 3) := by decide +kernel
theorem dX2_compareRegisters_125 : decode cX2_compareRegisters 125 = .ok (.ireturn, 1) := by decide +kernel
theorem dX2_order_0 : decode cX2_order 0 = .ok (.iload_n 0, 1) := by decide +kernel
theorem dX2_order_1 : decode cX2_order 1 = .ok (.iload_n 1, 1) := by decide +kernel
theorem dX2_order_2 : decode cX2_order 2 = .ok (.if_icmp .ne 5, 3) := by decide +kernel
theorem dX2_order_5 : decode cX2_order 5 = .ok (.iconst 1, 1) := by decide +kernel
theorem dX2_order_6 : decode cX2_order 6 = .ok (.ireturn, 1) := by decide +kernel
theorem dX2_order_7 : decode cX2_order 7 = .ok (.iload_n 0, 1) := by decide +kernel
theorem dX2_order_8 : decode cX2_order 8 = .ok (.iload_n 1, 1) := by decide +kernel
theorem dX2_order_9 : decode cX2_order 9 = .ok (.if_icmp .ge 7, 3) := by decide +kernel
theorem dX2_order_12 : decode cX2_order 12 = .ok (.iconst 0, 1) := by decide +kernel
theorem dX2_order_13 : decode cX2_order 13 = .ok (.goto 4, 3) := by decide +kernel
theorem dX2_order_16 : decode cX2_order 16 = .ok (.iconst 2, 1) := by decide +kernel
theorem dX2_order_17 : decode cX2_order 17 = .ok (.ireturn, 1) := by decide +kernel
theorem dX2_compareInto_0 : decode cX2_compareInto 0 = .ok (.iload_n 3, 1) := by decide +kernel
theorem dX2_compareInto_1 : decode cX2_compareInto 1 = .ok (.invokestatic 23, 3) := by decide +kernel
theorem dX2_compareInto_4 : decode cX2_compareInto 4 = .ok (.ifCond .ne 6, 3) := by decide +kernel
theorem dX2_compareInto_7 : decode cX2_compareInto 7 = .ok (.bipush (-2), 2) := by decide +kernel
theorem dX2_compareInto_9 : decode cX2_compareInto 9 = .ok (.ireturn, 1) := by decide +kernel
theorem dX2_compareInto_10 : decode cX2_compareInto 10 = .ok (.aload_n 0, 1) := by decide +kernel
theorem dX2_compareInto_11 : decode cX2_compareInto 11 = .ok (.iload_n 1, 1) := by decide +kernel
theorem dX2_compareInto_12 : decode cX2_compareInto 12 = .ok (.iload_n 2, 1) := by decide +kernel
theorem dX2_compareInto_13 : decode cX2_compareInto 13 = .ok (.invokevirtual 123, 3) := by decide +kernel
theorem dX2_compareInto_16 : decode cX2_compareInto 16 = .ok (.istore 4, 2) := by decide +kernel
theorem dX2_compareInto_18 : decode cX2_compareInto 18 = .ok (.iload 4, 2) := by decide +kernel
theorem dX2_compareInto_20 : decode cX2_compareInto 20 = .ok (.ifCond .lt 13, 3) := by decide +kernel
theorem dX2_compareInto_23 : decode cX2_compareInto 23 = .ok (.aload_n 0, 1) := by decide +kernel
theorem dX2_compareInto_24 : decode cX2_compareInto 24 = .ok (.getfield 9, 3) := by decide +kernel
theorem dX2_compareInto_27 : decode cX2_compareInto 27 = .ok (.iload_n 3, 1) := by decide +kernel
theorem dX2_compareInto_28 : decode cX2_compareInto 28 = .ok (.iload 4, 2) := by decide +kernel
theorem dX2_compareInto_30 : decode cX2_compareInto 30 = .ok (.invokevirtual 55, 3) := by decide +kernel
theorem dX2_compareInto_33 : decode cX2_compareInto 33 = .ok (.iload 4, 2) := by decide +kernel
theorem dX2_compareInto_35 : decode cX2_compareInto 35 = .ok (.ireturn, 1) := by decide +kernel
theorem dX2_jumps_0 : decode cX2_jumps 0 = .ok (.iload_n 1, 1) := by decide +kernel
theorem dX2_jumps_1 : decode cX2_jumps 1 = .ok (.invokestatic 23, 3) := by decide +kernel
theorem dX2_jumps_4 : decode cX2_jumps 4 = .ok (.ifCond .ne 6, 3) := by decide +kernel
theorem dX2_jumps_7 : decode cX2_jumps 7 = .ok (.bipush (-2), 2) := by decide +kernel
theorem dX2_jumps_9 : decode cX2_jumps 9 = .ok (.ireturn, 1) := by decide +kernel
theorem dX2_jumps_10 : decode cX2_jumps 10 = .ok (.aload_n 0, 1) := by decide +kernel
theorem dX2_jumps_11 : decode cX2_jumps 11 = .ok (.getfield 9, 3) := by decide +kernel
theorem dX2_jumps_14 : decode cX2_jumps 14 = .ok (.iload_n 1, 1) := by decide +kernel
theorem dX2_jumps_15 : decode cX2_jumps 15 = .ok (.invokevirtual 59, 3) := by decide +kernel
theorem dX2_jumps_18 : decode cX2_jumps 18 = .ok (.istore_n 2, 1) := by decide +kernel
theorem dX2_jumps_19 : decode cX2_jumps 19 = .ok (.iload_n 2, 1) := by decide +kernel
theorem dX2_jumps_20 : decode cX2_jumps 20 = .ok (.ifCond .ne 6, 3) := by decide +kernel
theorem dX2_jumps_23 : decode cX2_jumps 23 = .ok (.bipush (-11), 2) := by decide +kernel
theorem dX2_jumps_25 : decode cX2_jumps 25 = .ok (.ireturn, 1) := by decide +kernel
theorem dX2_jumps_26 : decode cX2_jumps 26 = .ok (.iload_n 2, 1) := by decide +kernel
theorem dX2_jumps_27 : decode cX2_jumps 27 = .ok (.iconst 2, 1) := by decide +kernel
theorem dX2_jumps_28 : decode cX2_jumps 28 = .ok (.if_icmp .ne 6, 3) := by decide +kernel
theorem dX2_jumps_31 : decode cX2_jumps 31 = .ok (.bipush (-17), 2) := by decide +kernel
theorem dX2_jumps_33 : decode cX2_jumps 33 = .ok (.ireturn, 1) := by decide +kernel
theorem dX2_jumps_34 : decode cX2_jumps 34 = .ok (.aload_n 0, 1) := by decide +kernel
theorem dX2_jumps_35 : decode cX2_jumps 35 = .ok (.getfield 9, 3) := by decide +kernel
theorem dX2_jumps_38 : decode cX2_jumps 38 = .ok (.iload_n 1, 1) := by decide +kernel
theorem dX2_jumps_39 : decode cX2_jumps 39 = .ok (.invokevirtual 45, 3) := by decide +kernel
theorem dX2_jumps_42 : decode cX2_jumps 42 = .ok (.ifCond .eq 7, 3) := by decide +kernel
theorem dX2_jumps_45 : decode cX2_jumps 45 = .ok (.iconst 1, 1) := by decide +kernel
theorem dX2_jumps_46 : decode cX2_jumps 46 = .ok (.goto 4, 3) := by decide +kernel
theorem dX2_jumps_49 : decode cX2_jumps 49 = .ok (.iconst 0, 1) := by decide +kernel
theorem dX2_jumps_50 : decode cX2_jumps 50 = .ok (.ireturn, 1) := by decide +kernel
theorem dX2_blitBytes_0 : decode cX2_blitBytes 0 = .ok (.iload_n 1, 1) := by decide +kernel
theorem dX2_blitBytes_1 : decode cX2_blitBytes 1 = .ok (.invokestatic 23, 3) := by decide +kernel
theorem dX2_blitBytes_4 : decode cX2_blitBytes 4 = .ok (.ifCond .eq 21, 3) := by decide +kernel
theorem dX2_blitBytes_7 : decode cX2_blitBytes 7 = .ok (.iload_n 2, 1) := by decide +kernel
theorem dX2_blitBytes_8 : decode cX2_blitBytes 8 = .ok (.invokestatic 23, 3) := by decide +kernel
theorem dX2_blitBytes_11 : decode cX2_blitBytes 11 = .ok (.ifCond .eq 14, 3) := by decide +kernel
theorem dX2_blitBytes_14 : decode cX2_blitBytes 14 = .ok (.iload_n 3, 1) := by decide +kernel
theorem dX2_blitBytes_15 : decode cX2_blitBytes 15 = .ok (.iconst 1, 1) := by decide +kernel
theorem dX2_blitBytes_16 : decode cX2_blitBytes 16 = .ok (.if_icmp .lt 9, 3) := by decide +kernel
theorem dX2_blitBytes_19 : decode cX2_blitBytes 19 = .ok (.iload_n 3, 1) := by decide +kernel
theorem dX2_blitBytes_20 : decode cX2_blitBytes 20 = .ok (.bipush 12, 2) := by decide +kernel
theorem dX2_blitBytes_22 : decode cX2_blitBytes 22 = .ok (.if_icmp .le 6, 3) := by decide +kernel
theorem dX2_blitBytes_25 : decode cX2_blitBytes 25 = .ok (.bipush (-2), 2) := by decide +kernel
theorem dX2_blitBytes_27 : decode cX2_blitBytes 27 = .ok (.ireturn, 1) := by decide +kernel
theorem dX2_blitBytes_28 : decode cX2_blitBytes 28 = .ok (.aload_n 0, 1) := by decide +kernel
theorem dX2_blitBytes_29 : decode cX2_blitBytes 29 = .ok (.iload_n 1, 1) := by decide +kernel
theorem dX2_blitBytes_30 : decode cX2_blitBytes 30 = .ok (.iload_n 3, 1) := by decide +kernel
theorem dX2_blitBytes_31 : decode cX2_blitBytes 31 = .ok (.invokevirtual 90, 3) := by decide +kernel
theorem dX2_blitBytes_34 : decode cX2_blitBytes 34 = .ok (.istore 4, 2) := by decide +kernel
theorem dX2_blitBytes_36 : decode cX2_blitBytes 36 = .ok (.iload 4, 2) := by decide +kernel
theorem dX2_blitBytes_38 : decode cX2_blitBytes 38 = .ok (.ifCond .ne 11, 3) := by decide +kernel
theorem dX2_blitBytes_41 : decode cX2_blitBytes 41 = .ok (.aload_n 0, 1) := by decide +kernel
theorem dX2_blitBytes_42 : decode cX2_blitBytes 42 = .ok (.iload_n 2, 1) := by decide +kernel
theorem dX2_blitBytes_43 : decode cX2_blitBytes 43 = .ok (.iload_n 3, 1) := by decide +kernel
theorem dX2_blitBytes_44 : decode cX2_blitBytes 44 = .ok (.invokevirtual 105, 3) := by decide +kernel
theorem dX2_blitBytes_47 : decode cX2_blitBytes 47 = .ok (.istore 4, 2) := by decide +kernel
theorem dX2_blitBytes_49 : decode cX2_blitBytes 49 = .ok (.iload 4, 2) := by decide +kernel
theorem dX2_blitBytes_51 : decode cX2_blitBytes 51 = .ok (.ifCond .eq 6, 3) := by decide +kernel
theorem dX2_blitBytes_54 : decode cX2_blitBytes 54 = .ok (.iload 4, 2) := by decide +kernel
theorem dX2_blitBytes_56 : decode cX2_blitBytes 56 = .ok (.ireturn, 1) := by decide +kernel
theorem dX2_blitBytes_57 : decode cX2_blitBytes 57 = .ok (.aload_n 0, 1) := by decide +kernel
theorem dX2_blitBytes_58 : decode cX2_blitBytes 58 = .ok (.aload_n 0, 1) := by decide +kernel
theorem dX2_blitBytes_59 : decode cX2_blitBytes 59 = .ok (.getfield 9, 3) := by decide +kernel
theorem dX2_blitBytes_62 : decode cX2_blitBytes 62 = .ok (.iload_n 2, 1) := by decide +kernel
theorem dX2_blitBytes_63 : decode cX2_blitBytes 63 = .ok (.invokevirtual 45, 3) := by decide +kernel
theorem dX2_blitBytes_66 : decode cX2_blitBytes 66 = .ok (.aload_n 0, 1) := by decide +kernel
theorem dX2_blitBytes_67 : decode cX2_blitBytes 67 = .ok (.getfield 9, 3) := by decide +kernel
theorem dX2_blitBytes_70 : decode cX2_blitBytes 70 = .ok (.iload_n 2, 1) := by decide +kernel
theorem dX2_blitBytes_71 : decode cX2_blitBytes 71 = .ok (.invokevirtual 62, 3) := by decide +kernel
theorem dX2_blitBytes_74 : decode cX2_blitBytes 74 = .ok (.iload_n 3, 1) := by decide +kernel
theorem dX2_blitBytes_75 : decode cX2_blitBytes 75 = .ok (.invokevirtual 126, 3) := by decide +kernel
theorem dX2_blitBytes_78 : decode cX2_blitBytes 78 = .ok (.ifCond .eq 6, 3) := by decide +kernel
theorem dX2_blitBytes_81 : decode cX2_blitBytes 81 = .ok (.bipush (-16), 2) := by decide +kernel
theorem dX2_blitBytes_83 : decode cX2_blitBytes 83 = .ok (.ireturn, 1) := by decide +kernel
theorem dX2_blitBytes_84 : decode cX2_blitBytes 84 = .ok (.aload_n 0, 1) := by decide +kernel
theorem dX2_blitBytes_85 : decode cX2_blitBytes 85 = .ok (.iload_n 1, 1) := by decide +kernel
theorem dX2_blitBytes_86 : decode cX2_blitBytes 86 = .ok (.iload_n 2, 1) := by decide +kernel
theorem dX2_blitBytes_87 : decode cX2_blitBytes 87 = .ok (.iload_n 3, 1) := by decide +kernel
theorem dX2_blitBytes_88 : decode cX2_blitBytes 88 = .ok (.invokevirtual 130, 3) := by decide +kernel
theorem dX2_blitBytes_91 : decode cX2_blitBytes 91 = .ok (.iload_n 3, 1) := by decide +kernel
theorem dX2_blitBytes_92 : decode cX2_blitBytes 92 = .ok (.ireturn, 1) := by decide +kernel
theorem dX2_carryBytes_0 : decode cX2_carryBytes 0 = .ok (.iconst 0, 1) := by decide +kernel
theorem dX2_carryBytes_1 : decode cX2_carryBytes 1 = .ok (.istore 4, 2) := by decide +kernel
theorem dX2_carryBytes_3 : decode cX2_carryBytes 3 = .ok (.iload 4, 2) := by decide +kernel
theorem dX2_carryBytes_5 : decode cX2_carryBytes 5 = .ok (.iload_n 3, 1) := by decide +kernel
theorem dX2_carryBytes_6 : decode cX2_carryBytes 6 = .ok (.if_icmp .ge 49, 3) := by decide +kernel
theorem dX2_carryBytes_9 : decode cX2_carryBytes 9 = .ok (.iload 4, 2) := by decide +kernel
theorem dX2_carryBytes_11 : decode cX2_carryBytes 11 = .ok (.bipush 12, 2) := by decide +kernel
theorem dX2_carryBytes_13 : decode cX2_carryBytes 13 = .ok (.if_icmp .ge 42, 3) := by decide +kernel
theorem dX2_carryBytes_16 : decode cX2_carryBytes 16 = .ok (.aload_n 0, 1) := by decide +kernel
theorem dX2_carryBytes_17 : decode cX2_carryBytes 17 = .ok (.getfield 19, 3) := by decide +kernel
theorem dX2_carryBytes_20 : decode cX2_carryBytes 20 = .ok (.iload 4, 2) := by decide +kernel
theorem dX2_carryBytes_22 : decode cX2_carryBytes 22 = .ok (.aload_n 0, 1) := by decide +kernel
theorem dX2_carryBytes_23 : decode cX2_carryBytes 23 = .ok (.getfield 9, 3) := by decide +kernel
theorem dX2_carryBytes_26 : decode cX2_carryBytes 26 = .ok (.aload_n 0, 1) := by decide +kernel
theorem dX2_carryBytes_27 : decode cX2_carryBytes 27 = .ok (.getfield 9, 3) := by decide +kernel
theorem dX2_carryBytes_30 : decode cX2_carryBytes 30 = .ok (.iload_n 2, 1) := by decide +kernel
theorem dX2_carryBytes_31 : decode cX2_carryBytes 31 = .ok (.invokevirtual 45, 3) := by decide +kernel
theorem dX2_carryBytes_34 : decode cX2_carryBytes 34 = .ok (.aload_n 0, 1) := by decide +kernel
theorem dX2_carryBytes_35 : decode cX2_carryBytes 35 = .ok (.getfield 9, 3) := by decide +kernel
theorem dX2_carryBytes_38 : decode cX2_carryBytes 38 = .ok (.iload_n 2, 1) := by decide +kernel
theorem dX2_carryBytes_39 : decode cX2_carryBytes 39 = .ok (.invokevirtual 62, 3) := by decide +kernel
theorem dX2_carryBytes_42 : decode cX2_carryBytes 42 = .ok (.iload 4, 2) := by decide +kernel
theorem dX2_carryBytes_44 : decode cX2_carryBytes 44 = .ok (.iadd, 1) := by decide +kernel
theorem dX2_carryBytes_45 : decode cX2_carryBytes 45 = .ok (.invokevirtual 108, 3) := by decide +kernel
theorem dX2_carryBytes_48 : decode cX2_carryBytes 48 = .ok (.iastore, 1) := by decide +kernel
theorem dX2_carryBytes_49 : decode cX2_carryBytes 49 = .ok (.iinc 4 1, 3) := by decide +kernel
theorem dX2_carryBytes_52 : decode cX2_carryBytes 52 = .ok (.goto (-49), 3) := by decide +kernel
theorem dX2_carryBytes_55 : decode cX2_carryBytes 55 = .ok (.aload_n 0, 1) := by decide +kernel
theorem dX2_carryBytes_56 : decode cX2_carryBytes 56 = .ok (.getfield 9, 3) := by decide +kernel
theorem dX2_carryBytes_59 : decode cX2_carryBytes 59 = .ok (.iload_n 1, 1) := by decide +kernel
theorem dX2_carryBytes_60 : decode cX2_carryBytes 60 = .ok (.invokevirtual 45, 3) := by decide +kernel
theorem dX2_carryBytes_63 : decode cX2_carryBytes 63 = .ok (.istore 4, 2) := by decide +kernel
theorem dX2_carryBytes_65 : decode cX2_carryBytes 65 = .ok (.aload_n 0, 1) := by decide +kernel
theorem dX2_carryBytes_66 : decode cX2_carryBytes 66 = .ok (.getfield 9, 3) := by decide +kernel
theorem dX2_carryBytes_69 : decode cX2_carryBytes 69 = .ok (.iload_n 1, 1) := by decide +kernel
theorem dX2_carryBytes_70 : decode cX2_carryBytes 70 = .ok (.invokevirtual 62, 3) := by decide +kernel
theorem dX2_carryBytes_73 : decode cX2_carryBytes 73 = .ok (.istore 5, 2) := by decide +kernel
theorem dX2_carryBytes_75 : decode cX2_carryBytes 75 = .ok (.aload_n 0, 1) := by decide +kernel
theorem dX2_carryBytes_76 : decode cX2_carryBytes 76 = .ok (.iload 4, 2) := by decide +kernel
theorem dX2_carryBytes_78 : decode cX2_carryBytes 78 = .ok (.iload 5, 2) := by decide +kernel
theorem dX2_carryBytes_80 : decode cX2_carryBytes 80 = .ok (.iload_n 3, 1) := by decide +kernel
theorem dX2_carryBytes_81 : decode cX2_carryBytes 81 = .ok (.invokevirtual 93, 3) := by decide +kernel
theorem dX2_carryBytes_84 : decode cX2_carryBytes 84 = .ok (.iconst 0, 1) := by decide +kernel
theorem dX2_carryBytes_85 : decode cX2_carryBytes 85 = .ok (.istore 6, 2) := by decide +kernel
theorem dX2_carryBytes_87 : decode cX2_carryBytes 87 = .ok (.iload 6, 2) := by decide +kernel
theorem dX2_carryBytes_89 : decode cX2_carryBytes 89 = .ok (.iload_n 3, 1) := by decide +kernel
theorem dX2_carryBytes_90 : decode cX2_carryBytes 90 = .ok (.if_icmp .ge 37, 3) := by decide +kernel
theorem dX2_carryBytes_93 : decode cX2_carryBytes 93 = .ok (.iload 6, 2) := by decide +kernel
theorem dX2_carryBytes_95 : decode cX2_carryBytes 95 = .ok (.bipush 12, 2) := by decide +kernel
theorem dX2_carryBytes_97 : decode cX2_carryBytes 97 = .ok (.if_icmp .ge 30, 3) := by decide +kernel
theorem dX2_carryBytes_100 : decode cX2_carryBytes 100 = .ok (.aload_n 0, 1) := by decide +kernel
theorem dX2_carryBytes_101 : decode cX2_carryBytes 101 = .ok (.getfield 9, 3) := by decide +kernel
theorem dX2_carryBytes_104 : decode cX2_carryBytes 104 = .ok (.iload 4, 2) := by decide +kernel
theorem dX2_carryBytes_106 : decode cX2_carryBytes 106 = .ok (.iload 5, 2) := by decide +kernel
theorem dX2_carryBytes_108 : decode cX2_carryBytes 108 = .ok (.iload 6, 2) := by decide +kernel
theorem dX2_carryBytes_110 : decode cX2_carryBytes 110 = .ok (.iadd, 1) := by decide +kernel
theorem dX2_carryBytes_111 : decode cX2_carryBytes 111 = .ok (.aload_n 0, 1) := by decide +kernel
theorem dX2_carryBytes_112 : decode cX2_carryBytes 112 = .ok (.getfield 19, 3) := by decide +kernel
theorem dX2_carryBytes_115 : decode cX2_carryBytes 115 = .ok (.iload 6, 2) := by decide +kernel
theorem dX2_carryBytes_117 : decode cX2_carryBytes 117 = .ok (.iaload, 1) := by decide +kernel
theorem dX2_carryBytes_118 : decode cX2_carryBytes 118 = .ok (.invokevirtual 102, 3) := by decide +kernel
theorem dX2_carryBytes_121 : decode cX2_carryBytes 121 = .ok (.iinc 6 1, 3) := by decide +kernel
theorem dX2_carryBytes_124 : decode cX2_carryBytes 124 = .ok (.goto (-37), 3) := by decide +kernel
theorem dX2_carryBytes_127 : decode cX2_carryBytes 127 = .ok (.return_, 1) := by decide +kernel
theorem dX2_freezeBlocks_0 : decode cX2_freezeBlocks 0 = .ok (.iload_n 1, 1) := by decide +kernel
theorem dX2_freezeBlocks_1 : decode cX2_freezeBlocks 1 = .ok (.invokestatic 23, 3) := by decide +kernel
theorem dX2_freezeBlocks_4 : decode cX2_freezeBlocks 4 = .ok (.ifCond .ne 6, 3) := by decide +kernel
theorem dX2_freezeBlocks_7 : decode cX2_freezeBlocks 7 = .ok (.bipush (-2), 2) := by decide +kernel
theorem dX2_freezeBlocks_9 : decode cX2_freezeBlocks 9 = .ok (.ireturn, 1) := by decide +kernel
theorem dX2_freezeBlocks_10 : decode cX2_freezeBlocks 10 = .ok (.aload_n 0, 1) := by decide +kernel
theorem dX2_freezeBlocks_11 : decode cX2_freezeBlocks 11 = .ok (.iload_n 1, 1) := by decide +kernel
theorem dX2_freezeBlocks_12 : decode cX2_freezeBlocks 12 = .ok (.invokevirtual 41, 3) := by decide +kernel
theorem dX2_freezeBlocks_15 : decode cX2_freezeBlocks 15 = .ok (.istore_n 2, 1) := by decide +kernel
theorem dX2_freezeBlocks_16 : decode cX2_freezeBlocks 16 = .ok (.iload_n 2, 1) := by decide +kernel
theorem dX2_freezeBlocks_17 : decode cX2_freezeBlocks 17 = .ok (.ifCond .eq 5, 3) := by decide +kernel
theorem dX2_freezeBlocks_20 : decode cX2_freezeBlocks 20 = .ok (.iload_n 2, 1) := by decide +kernel
theorem dX2_freezeBlocks_21 : decode cX2_freezeBlocks 21 = .ok (.ireturn, 1) := by decide +kernel
theorem dX2_freezeBlocks_22 : decode cX2_freezeBlocks 22 = .ok (.aload_n 0, 1) := by decide +kernel
theorem dX2_freezeBlocks_23 : decode cX2_freezeBlocks 23 = .ok (.getfield 15, 3) := by decide +kernel
theorem dX2_freezeBlocks_26 : decode cX2_freezeBlocks 26 = .ok (.aload_n 0, 1) := by decide +kernel
theorem dX2_freezeBlocks_27 : decode cX2_freezeBlocks 27 = .ok (.getfield 9, 3) := by decide +kernel
theorem dX2_freezeBlocks_30 : decode cX2_freezeBlocks 30 = .ok (.aload_n 0, 1) := by decide +kernel
theorem dX2_freezeBlocks_31 : decode cX2_freezeBlocks 31 = .ok (.getfield 9, 3) := by decide +kernel
theorem dX2_freezeBlocks_34 : decode cX2_freezeBlocks 34 = .ok (.iload_n 1, 1) := by decide +kernel
theorem dX2_freezeBlocks_35 : decode cX2_freezeBlocks 35 = .ok (.invokevirtual 45, 3) := by decide +kernel
theorem dX2_freezeBlocks_38 : decode cX2_freezeBlocks 38 = .ok (.invokevirtual 133, 3) := by decide +kernel
theorem dX2_freezeBlocks_41 : decode cX2_freezeBlocks 41 = .ok (.pop, 1) := by decide +kernel
theorem dX2_freezeBlocks_42 : decode cX2_freezeBlocks 42 = .ok (.aload_n 0, 1) := by decide +kernel
theorem dX2_freezeBlocks_43 : decode cX2_freezeBlocks 43 = .ok (.getfield 15, 3) := by decide +kernel
theorem dX2_freezeBlocks_46 : decode cX2_freezeBlocks 46 = .ok (.aload_n 0, 1) := by decide +kernel
theorem dX2_freezeBlocks_47 : decode cX2_freezeBlocks 47 = .ok (.getfield 9, 3) := by decide +kernel
theorem dX2_freezeBlocks_50 : decode cX2_freezeBlocks 50 = .ok (.invokevirtual 139, 3) := by decide +kernel
theorem dX2_freezeBlocks_53 : decode cX2_freezeBlocks 53 = .ok (.ifCond .ne 6, 3) := by decide +kernel
theorem dX2_freezeBlocks_56 : decode cX2_freezeBlocks 56 = .ok (.bipush (-13), 2) := by decide +kernel
theorem dX2_freezeBlocks_58 : decode cX2_freezeBlocks 58 = .ok (.ireturn, 1) := by decide +kernel
theorem dX2_freezeBlocks_59 : decode cX2_freezeBlocks 59 = .ok (.aload_n 0, 1) := by decide +kernel
theorem dX2_freezeBlocks_60 : decode cX2_freezeBlocks 60 = .ok (.getfield 15, 3) := by decide +kernel
theorem dX2_freezeBlocks_63 : decode cX2_freezeBlocks 63 = .ok (.aload_n 0, 1) := by decide +kernel
theorem dX2_freezeBlocks_64 : decode cX2_freezeBlocks 64 = .ok (.getfield 9, 3) := by decide +kernel
theorem dX2_freezeBlocks_67 : decode cX2_freezeBlocks 67 = .ok (.invokevirtual 143, 3) := by decide +kernel
theorem dX2_freezeBlocks_70 : decode cX2_freezeBlocks 70 = .ok (.aload_n 0, 1) := by decide +kernel
theorem dX2_freezeBlocks_71 : decode cX2_freezeBlocks 71 = .ok (.getfield 15, 3) := by decide +kernel
theorem dX2_freezeBlocks_74 : decode cX2_freezeBlocks 74 = .ok (.aload_n 0, 1) := by decide +kernel
theorem dX2_freezeBlocks_75 : decode cX2_freezeBlocks 75 = .ok (.getfield 9, 3) := by decide +kernel
theorem dX2_freezeBlocks_78 : decode cX2_freezeBlocks 78 = .ok (.invokevirtual 147, 3) := by decide +kernel
theorem dX2_freezeBlocks_81 : decode cX2_freezeBlocks 81 = .ok (.istore_n 3, 1) := by decide +kernel
theorem dX2_freezeBlocks_82 : decode cX2_freezeBlocks 82 = .ok (.iload_n 3, 1) := by decide +kernel
theorem dX2_freezeBlocks_83 : decode cX2_freezeBlocks 83 = .ok (.bipush 8, 2) := by decide +kernel
theorem dX2_freezeBlocks_85 : decode cX2_freezeBlocks 85 = .ok (.if_icmp .lt 6, 3) := by decide +kernel
theorem dX2_freezeBlocks_88 : decode cX2_freezeBlocks 88 = .ok (.bipush (-4), 2) := by decide +kernel
theorem dX2_freezeBlocks_90 : decode cX2_freezeBlocks 90 = .ok (.ireturn, 1) := by decide +kernel
theorem dX2_freezeBlocks_91 : decode cX2_freezeBlocks 91 = .ok (.iload_n 3, 1) := by decide +kernel
theorem dX2_freezeBlocks_92 : decode cX2_freezeBlocks 92 = .ok (.aload_n 0, 1) := by decide +kernel
theorem dX2_freezeBlocks_93 : decode cX2_freezeBlocks 93 = .ok (.getfield 9, 3) := by decide +kernel
theorem dX2_freezeBlocks_96 : decode cX2_freezeBlocks 96 = .ok (.getfield 151, 3) := by decide +kernel
theorem dX2_freezeBlocks_99 : decode cX2_freezeBlocks 99 = .ok (.if_icmp .ne 13, 3) := by decide +kernel
theorem dX2_freezeBlocks_102 : decode cX2_freezeBlocks 102 = .ok (.aload_n 0, 1) := by decide +kernel
theorem dX2_freezeBlocks_103 : decode cX2_freezeBlocks 103 = .ok (.getfield 9, 3) := by decide +kernel
theorem dX2_freezeBlocks_106 : decode cX2_freezeBlocks 106 = .ok (.iload_n 3, 1) := by decide +kernel
theorem dX2_freezeBlocks_107 : decode cX2_freezeBlocks 107 = .ok (.iconst 1, 1) := by decide +kernel
theorem dX2_freezeBlocks_108 : decode cX2_freezeBlocks 108 = .ok (.iadd, 1) := by decide +kernel
theorem dX2_freezeBlocks_109 : decode cX2_freezeBlocks 109 = .ok (.putfield 151, 3) := by decide +kernel
theorem dX2_freezeBlocks_112 : decode cX2_freezeBlocks 112 = .ok (.aload_n 0, 1) := by decide +kernel
theorem dX2_freezeBlocks_113 : decode cX2_freezeBlocks 113 = .ok (.getfield 15, 3) := by decide +kernel
theorem dX2_freezeBlocks_116 : decode cX2_freezeBlocks 116 = .ok (.aload_n 0, 1) := by decide +kernel
theorem dX2_freezeBlocks_117 : decode cX2_freezeBlocks 117 = .ok (.getfield 9, 3) := by decide +kernel
theorem dX2_freezeBlocks_120 : decode cX2_freezeBlocks 120 = .ok (.invokevirtual 154, 3) := by decide +kernel
theorem dX2_freezeBlocks_123 : decode cX2_freezeBlocks 123 = .ok (.iload_n 3, 1) := by decide +kernel
theorem dX2_freezeBlocks_124 : decode cX2_freezeBlocks 124 = .ok (.ireturn, 1) := by decide +kernel
theorem dX2_fault_0 : decode cX2_fault 0 = .ok (.aload_n 0, 1) := by decide +kernel
theorem dX2_fault_1 : decode cX2_fault 1 = .ok (.getfield 9, 3) := by decide +kernel
theorem dX2_fault_4 : decode cX2_fault 4 = .ok (.iload_n 1, 1) := by decide +kernel
theorem dX2_fault_5 : decode cX2_fault 5 = .ok (.invokevirtual 59, 3) := by decide +kernel
theorem dX2_fault_8 : decode cX2_fault 8 = .ok (.istore_n 2, 1) := by decide +kernel
theorem dX2_fault_9 : decode cX2_fault 9 = .ok (.iload_n 2, 1) := by decide +kernel
theorem dX2_fault_10 : decode cX2_fault 10 = .ok (.ifCond .ne 6, 3) := by decide +kernel
theorem dX2_fault_13 : decode cX2_fault 13 = .ok (.bipush (-11), 2) := by decide +kernel
theorem dX2_fault_15 : decode cX2_fault 15 = .ok (.ireturn, 1) := by decide +kernel
theorem dX2_fault_16 : decode cX2_fault 16 = .ok (.iload_n 2, 1) := by decide +kernel
theorem dX2_fault_17 : decode cX2_fault 17 = .ok (.iconst 1, 1) := by decide +kernel
theorem dX2_fault_18 : decode cX2_fault 18 = .ok (.if_icmp .ne 6, 3) := by decide +kernel
theorem dX2_fault_21 : decode cX2_fault 21 = .ok (.bipush (-12), 2) := by decide +kernel
theorem dX2_fault_23 : decode cX2_fault 23 = .ok (.ireturn, 1) := by decide +kernel
theorem dX2_fault_24 : decode cX2_fault 24 = .ok (.aload_n 0, 1) := by decide +kernel
theorem dX2_fault_25 : decode cX2_fault 25 = .ok (.getfield 9, 3) := by decide +kernel
theorem dX2_fault_28 : decode cX2_fault 28 = .ok (.aload_n 0, 1) := by decide +kernel
theorem dX2_fault_29 : decode cX2_fault 29 = .ok (.getfield 9, 3) := by decide +kernel
theorem dX2_fault_32 : decode cX2_fault 32 = .ok (.iload_n 1, 1) := by decide +kernel
theorem dX2_fault_33 : decode cX2_fault 33 = .ok (.invokevirtual 45, 3) := by decide +kernel
theorem dX2_fault_36 : decode cX2_fault 36 = .ok (.invokevirtual 84, 3) := by decide +kernel
theorem dX2_fault_39 : decode cX2_fault 39 = .ok (.ifCond .eq 7, 3) := by decide +kernel
theorem dX2_fault_42 : decode cX2_fault 42 = .ok (.iconst 0, 1) := by decide +kernel
theorem dX2_fault_43 : decode cX2_fault 43 = .ok (.goto 5, 3) := by decide +kernel
theorem dX2_fault_46 : decode cX2_fault 46 = .ok (.bipush (-13), 2) := by decide +kernel
theorem dX2_fault_48 : decode cX2_fault 48 = .ok (.ireturn, 1) := by decide +kernel
theorem dX2_faultAsBegin_0 : decode cX2_faultAsBegin 0 = .ok (.aload_n 0, 1) := by decide +kernel
theorem dX2_faultAsBegin_1 : decode cX2_faultAsBegin 1 = .ok (.iload_n 1, 1) := by decide +kernel
theorem dX2_faultAsBegin_2 : decode cX2_faultAsBegin 2 = .ok (.invokevirtual 157, 3) := by decide +kernel
theorem dX2_faultAsBegin_5 : decode cX2_faultAsBegin 5 = .ok (.istore_n 2, 1) := by decide +kernel
theorem dX2_faultAsBegin_6 : decode cX2_faultAsBegin 6 = .ok (.iload_n 2, 1) := by decide +kernel
theorem dX2_faultAsBegin_7 : decode cX2_faultAsBegin 7 = .ok (.ifCond .eq 5, 3) := by decide +kernel
theorem dX2_faultAsBegin_10 : decode cX2_faultAsBegin 10 = .ok (.iload_n 2, 1) := by decide +kernel
theorem dX2_faultAsBegin_11 : decode cX2_faultAsBegin 11 = .ok (.ireturn, 1) := by decide +kernel
theorem dX2_faultAsBegin_12 : decode cX2_faultAsBegin 12 = .ok (.aload_n 0, 1) := by decide +kernel
theorem dX2_faultAsBegin_13 : decode cX2_faultAsBegin 13 = .ok (.getfield 9, 3) := by decide +kernel
theorem dX2_faultAsBegin_16 : decode cX2_faultAsBegin 16 = .ok (.iload_n 1, 1) := by decide +kernel
theorem dX2_faultAsBegin_17 : decode cX2_faultAsBegin 17 = .ok (.invokevirtual 62, 3) := by decide +kernel
theorem dX2_faultAsBegin_20 : decode cX2_faultAsBegin 20 = .ok (.ifCond .ne 7, 3) := by decide +kernel
theorem dX2_faultAsBegin_23 : decode cX2_faultAsBegin 23 = .ok (.iconst 0, 1) := by decide +kernel
theorem dX2_faultAsBegin_24 : decode cX2_faultAsBegin 24 = .ok (.goto 5, 3) := by decide +kernel
theorem dX2_faultAsBegin_27 : decode cX2_faultAsBegin 27 = .ok (.bipush (-19), 2) := by decide +kernel
theorem dX2_faultAsBegin_29 : decode cX2_faultAsBegin 29 = .ok (.ireturn, 1) := by decide +kernel
theorem dX2_faultForReading_0 : decode cX2_faultForReading 0 = .ok (.aload_n 0, 1) := by decide +kernel
theorem dX2_faultForReading_1 : decode cX2_faultForReading 1 = .ok (.iload_n 1, 1) := by decide +kernel
theorem dX2_faultForReading_2 : decode cX2_faultForReading 2 = .ok (.invokevirtual 157, 3) := by decide +kernel
theorem dX2_faultForReading_5 : decode cX2_faultForReading 5 = .ok (.istore_n 3, 1) := by decide +kernel
theorem dX2_faultForReading_6 : decode cX2_faultForReading 6 = .ok (.iload_n 3, 1) := by decide +kernel
theorem dX2_faultForReading_7 : decode cX2_faultForReading 7 = .ok (.ifCond .eq 5, 3) := by decide +kernel
theorem dX2_faultForReading_10 : decode cX2_faultForReading 10 = .ok (.iload_n 3, 1) := by decide +kernel
theorem dX2_faultForReading_11 : decode cX2_faultForReading 11 = .ok (.ireturn, 1) := by decide +kernel
theorem dX2_faultForReading_12 : decode cX2_faultForReading 12 = .ok (.aload_n 0, 1) := by decide +kernel
theorem dX2_faultForReading_13 : decode cX2_faultForReading 13 = .ok (.iload_n 1, 1) := by decide +kernel
theorem dX2_faultForReading_14 : decode cX2_faultForReading 14 = .ok (.iload_n 2, 1) := by decide +kernel
theorem dX2_faultForReading_15 : decode cX2_faultForReading 15 = .ok (.invokevirtual 160, 3) := by decide +kernel
theorem dX2_faultForReading_18 : decode cX2_faultForReading 18 = .ok (.ifCond .eq 7, 3) := by decide +kernel
theorem dX2_faultForReading_21 : decode cX2_faultForReading 21 = .ok (.iconst 0, 1) := by decide +kernel
theorem dX2_faultForReading_22 : decode cX2_faultForReading 22 = .ok (.goto 5, 3) := by decide +kernel
theorem dX2_faultForReading_25 : decode cX2_faultForReading 25 = .ok (.bipush (-15), 2) := by decide +kernel
theorem dX2_faultForReading_27 : decode cX2_faultForReading 27 = .ok (.ireturn, 1) := by decide +kernel
theorem dX2_faultForWriting_0 : decode cX2_faultForWriting 0 = .ok (.aload_n 0, 1) := by decide +kernel
theorem dX2_faultForWriting_1 : decode cX2_faultForWriting 1 = .ok (.iload_n 1, 1) := by decide +kernel
theorem dX2_faultForWriting_2 : decode cX2_faultForWriting 2 = .ok (.invokevirtual 157, 3) := by decide +kernel
theorem dX2_faultForWriting_5 : decode cX2_faultForWriting 5 = .ok (.istore_n 3, 1) := by decide +kernel
theorem dX2_faultForWriting_6 : decode cX2_faultForWriting 6 = .ok (.iload_n 3, 1) := by decide +kernel
theorem dX2_faultForWriting_7 : decode cX2_faultForWriting 7 = .ok (.ifCond .eq 5, 3) := by decide +kernel
theorem dX2_faultForWriting_10 : decode cX2_faultForWriting 10 = .ok (.iload_n 3, 1) := by decide +kernel
theorem dX2_faultForWriting_11 : decode cX2_faultForWriting 11 = .ok (.ireturn, 1) := by decide +kernel
theorem dX2_faultForWriting_12 : decode cX2_faultForWriting 12 = .ok (.aload_n 0, 1) := by decide +kernel
theorem dX2_faultForWriting_13 : decode cX2_faultForWriting 13 = .ok (.getfield 9, 3) := by decide +kernel
theorem dX2_faultForWriting_16 : decode cX2_faultForWriting 16 = .ok (.aload_n 0, 1) := by decide +kernel
theorem dX2_faultForWriting_17 : decode cX2_faultForWriting 17 = .ok (.getfield 9, 3) := by decide +kernel
theorem dX2_faultForWriting_20 : decode cX2_faultForWriting 20 = .ok (.iload_n 1, 1) := by decide +kernel
theorem dX2_faultForWriting_21 : decode cX2_faultForWriting 21 = .ok (.invokevirtual 45, 3) := by decide +kernel
theorem dX2_faultForWriting_24 : decode cX2_faultForWriting 24 = .ok (.invokevirtual 48, 3) := by decide +kernel
theorem dX2_faultForWriting_27 : decode cX2_faultForWriting 27 = .ok (.ifCond .eq 6, 3) := by decide +kernel
theorem dX2_faultForWriting_30 : decode cX2_faultForWriting 30 = .ok (.bipush (-14), 2) := by decide +kernel
theorem dX2_faultForWriting_32 : decode cX2_faultForWriting 32 = .ok (.ireturn, 1) := by decide +kernel
theorem dX2_faultForWriting_33 : decode cX2_faultForWriting 33 = .ok (.aload_n 0, 1) := by decide +kernel
theorem dX2_faultForWriting_34 : decode cX2_faultForWriting 34 = .ok (.iload_n 1, 1) := by decide +kernel
theorem dX2_faultForWriting_35 : decode cX2_faultForWriting 35 = .ok (.iload_n 2, 1) := by decide +kernel
theorem dX2_faultForWriting_36 : decode cX2_faultForWriting 36 = .ok (.invokevirtual 160, 3) := by decide +kernel
theorem dX2_faultForWriting_39 : decode cX2_faultForWriting 39 = .ok (.ifCond .eq 7, 3) := by decide +kernel
theorem dX2_faultForWriting_42 : decode cX2_faultForWriting 42 = .ok (.iconst 0, 1) := by decide +kernel
theorem dX2_faultForWriting_43 : decode cX2_faultForWriting 43 = .ok (.goto 5, 3) := by decide +kernel
theorem dX2_faultForWriting_46 : decode cX2_faultForWriting 46 = .ok (.bipush (-15), 2) := by decide +kernel
theorem dX2_faultForWriting_48 : decode cX2_faultForWriting 48 = .ok (.ireturn, 1) := by decide +kernel
theorem dX2_hasBytes_0 : decode cX2_hasBytes 0 = .ok (.aload_n 0, 1) := by decide +kernel
theorem dX2_hasBytes_1 : decode cX2_hasBytes 1 = .ok (.getfield 9, 3) := by decide +kernel
theorem dX2_hasBytes_4 : decode cX2_hasBytes 4 = .ok (.iload_n 1, 1) := by decide +kernel
theorem dX2_hasBytes_5 : decode cX2_hasBytes 5 = .ok (.invokevirtual 62, 3) := by decide +kernel
theorem dX2_hasBytes_8 : decode cX2_hasBytes 8 = .ok (.iload_n 2, 1) := by decide +kernel
theorem dX2_hasBytes_9 : decode cX2_hasBytes 9 = .ok (.iadd, 1) := by decide +kernel
theorem dX2_hasBytes_10 : decode cX2_hasBytes 10 = .ok (.aload_n 0, 1) := by decide +kernel
theorem dX2_hasBytes_11 : decode cX2_hasBytes 11 = .ok (.getfield 9, 3) := by decide +kernel
theorem dX2_hasBytes_14 : decode cX2_hasBytes 14 = .ok (.aload_n 0, 1) := by decide +kernel
theorem dX2_hasBytes_15 : decode cX2_hasBytes 15 = .ok (.getfield 9, 3) := by decide +kernel
theorem dX2_hasBytes_18 : decode cX2_hasBytes 18 = .ok (.iload_n 1, 1) := by decide +kernel
theorem dX2_hasBytes_19 : decode cX2_hasBytes 19 = .ok (.invokevirtual 45, 3) := by decide +kernel
theorem dX2_hasBytes_22 : decode cX2_hasBytes 22 = .ok (.invokevirtual 87, 3) := by decide +kernel
theorem dX2_hasBytes_25 : decode cX2_hasBytes 25 = .ok (.if_icmp .gt 7, 3) := by decide +kernel
theorem dX2_hasBytes_28 : decode cX2_hasBytes 28 = .ok (.iconst 1, 1) := by decide +kernel
theorem dX2_hasBytes_29 : decode cX2_hasBytes 29 = .ok (.goto 4, 3) := by decide +kernel
theorem dX2_hasBytes_32 : decode cX2_hasBytes 32 = .ok (.iconst 0, 1) := by decide +kernel
theorem dX2_hasBytes_33 : decode cX2_hasBytes 33 = .ok (.ireturn, 1) := by decide +kernel
theorem dX2_cutsPointer_0 : decode cX2_cutsPointer 0 = .ok (.aload_n 0, 1) := by decide +kernel
theorem dX2_cutsPointer_1 : decode cX2_cutsPointer 1 = .ok (.getfield 9, 3) := by decide +kernel
theorem dX2_cutsPointer_4 : decode cX2_cutsPointer 4 = .ok (.iload_n 1, 1) := by decide +kernel
theorem dX2_cutsPointer_5 : decode cX2_cutsPointer 5 = .ok (.iload_n 2, 1) := by decide +kernel
theorem dX2_cutsPointer_6 : decode cX2_cutsPointer 6 = .ok (.invokevirtual 108, 3) := by decide +kernel
theorem dX2_cutsPointer_9 : decode cX2_cutsPointer 9 = .ok (.sipush 999, 3) := by decide +kernel
theorem dX2_cutsPointer_12 : decode cX2_cutsPointer 12 = .ok (.if_icmp .eq 22, 3) := by decide +kernel
theorem dX2_cutsPointer_15 : decode cX2_cutsPointer 15 = .ok (.aload_n 0, 1) := by decide +kernel
theorem dX2_cutsPointer_16 : decode cX2_cutsPointer 16 = .ok (.getfield 9, 3) := by decide +kernel
theorem dX2_cutsPointer_19 : decode cX2_cutsPointer 19 = .ok (.iload_n 1, 1) := by decide +kernel
theorem dX2_cutsPointer_20 : decode cX2_cutsPointer 20 = .ok (.iload_n 2, 1) := by decide +kernel
theorem dX2_cutsPointer_21 : decode cX2_cutsPointer 21 = .ok (.iload_n 3, 1) := by decide +kernel
theorem dX2_cutsPointer_22 : decode cX2_cutsPointer 22 = .ok (.iadd, 1) := by decide +kernel
theorem dX2_cutsPointer_23 : decode cX2_cutsPointer 23 = .ok (.iconst 1, 1) := by decide +kernel
theorem dX2_cutsPointer_24 : decode cX2_cutsPointer 24 = .ok (.isub, 1) := by decide +kernel
theorem dX2_cutsPointer_25 : decode cX2_cutsPointer 25 = .ok (.invokevirtual 108, 3) := by decide +kernel
theorem dX2_cutsPointer_28 : decode cX2_cutsPointer 28 = .ok (.invokestatic 111, 3) := by decide +kernel
theorem dX2_cutsPointer_31 : decode cX2_cutsPointer 31 = .ok (.ifCond .eq 7, 3) := by decide +kernel
theorem dX2_cutsPointer_34 : decode cX2_cutsPointer 34 = .ok (.iconst 1, 1) := by decide +kernel
theorem dX2_cutsPointer_35 : decode cX2_cutsPointer 35 = .ok (.goto 4, 3) := by decide +kernel
theorem dX2_cutsPointer_38 : decode cX2_cutsPointer 38 = .ok (.iconst 0, 1) := by decide +kernel
theorem dX2_cutsPointer_39 : decode cX2_cutsPointer 39 = .ok (.ireturn, 1) := by decide +kernel
theorem dX2_splitPointers_0 : decode cX2_splitPointers 0 = .ok (.aload_n 0, 1) := by decide +kernel
theorem dX2_splitPointers_1 : decode cX2_splitPointers 1 = .ok (.getfield 9, 3) := by decide +kernel
theorem dX2_splitPointers_4 : decode cX2_splitPointers 4 = .ok (.iload_n 1, 1) := by decide +kernel
theorem dX2_splitPointers_5 : decode cX2_splitPointers 5 = .ok (.iload_n 2, 1) := by decide +kernel
theorem dX2_splitPointers_6 : decode cX2_splitPointers 6 = .ok (.invokevirtual 108, 3) := by decide +kernel
theorem dX2_splitPointers_9 : decode cX2_splitPointers 9 = .ok (.sipush 999, 3) := by decide +kernel
theorem dX2_splitPointers_12 : decode cX2_splitPointers 12 = .ok (.if_icmp .ne 15, 3) := by decide +kernel
theorem dX2_splitPointers_15 : decode cX2_splitPointers 15 = .ok (.aload_n 0, 1) := by decide +kernel
theorem dX2_splitPointers_16 : decode cX2_splitPointers 16 = .ok (.getfield 9, 3) := by decide +kernel
theorem dX2_splitPointers_19 : decode cX2_splitPointers 19 = .ok (.iload_n 1, 1) := by decide +kernel
theorem dX2_splitPointers_20 : decode cX2_splitPointers 20 = .ok (.iload_n 2, 1) := by decide +kernel
theorem dX2_splitPointers_21 : decode cX2_splitPointers 21 = .ok (.iconst 1, 1) := by decide +kernel
theorem dX2_splitPointers_22 : decode cX2_splitPointers 22 = .ok (.isub, 1) := by decide +kernel
theorem dX2_splitPointers_23 : decode cX2_splitPointers 23 = .ok (.iconst (-1), 1) := by decide +kernel
theorem dX2_splitPointers_24 : decode cX2_splitPointers 24 = .ok (.invokevirtual 102, 3) := by decide +kernel
theorem dX2_splitPointers_27 : decode cX2_splitPointers 27 = .ok (.aload_n 0, 1) := by decide +kernel
theorem dX2_splitPointers_28 : decode cX2_splitPointers 28 = .ok (.getfield 9, 3) := by decide +kernel
theorem dX2_splitPointers_31 : decode cX2_splitPointers 31 = .ok (.iload_n 1, 1) := by decide +kernel
theorem dX2_splitPointers_32 : decode cX2_splitPointers 32 = .ok (.iload_n 2, 1) := by decide +kernel
theorem dX2_splitPointers_33 : decode cX2_splitPointers 33 = .ok (.iload_n 3, 1) := by decide +kernel
theorem dX2_splitPointers_34 : decode cX2_splitPointers 34 = .ok (.iadd, 1) := by decide +kernel
theorem dX2_splitPointers_35 : decode cX2_splitPointers 35 = .ok (.iconst 1, 1) := by decide +kernel
theorem dX2_splitPointers_36 : decode cX2_splitPointers 36 = .ok (.isub, 1) := by decide +kernel
theorem dX2_splitPointers_37 : decode cX2_splitPointers 37 = .ok (.invokevirtual 108, 3) := by decide +kernel
theorem dX2_splitPointers_40 : decode cX2_splitPointers 40 = .ok (.invokestatic 111, 3) := by decide +kernel
theorem dX2_splitPointers_43 : decode cX2_splitPointers 43 = .ok (.ifCond .eq 15, 3) := by decide +kernel
theorem dX2_splitPointers_46 : decode cX2_splitPointers 46 = .ok (.aload_n 0, 1) := by decide +kernel
theorem dX2_splitPointers_47 : decode cX2_splitPointers 47 = .ok (.getfield 9, 3) := by decide +kernel
theorem dX2_splitPointers_50 : decode cX2_splitPointers 50 = .ok (.iload_n 1, 1) := by decide +kernel
theorem dX2_splitPointers_51 : decode cX2_splitPointers 51 = .ok (.iload_n 2, 1) := by decide +kernel
theorem dX2_splitPointers_52 : decode cX2_splitPointers 52 = .ok (.iload_n 3, 1) := by decide +kernel
theorem dX2_splitPointers_53 : decode cX2_splitPointers 53 = .ok (.iadd, 1) := by decide +kernel
theorem dX2_splitPointers_54 : decode cX2_splitPointers 54 = .ok (.iconst (-1), 1) := by decide +kernel
theorem dX2_splitPointers_55 : decode cX2_splitPointers 55 = .ok (.invokevirtual 102, 3) := by decide +kernel
theorem dX2_splitPointers_58 : decode cX2_splitPointers 58 = .ok (.return_, 1) := by decide +kernel
theorem dX3_init_0 : decode cX3_init 0 = .ok (.aload_n 0, 1) := by decide +kernel
theorem dX3_init_1 : decode cX3_init 1 = .ok (.invokespecial 3, 3) := by decide +kernel
theorem dX3_init_4 : decode cX3_init 4 = .ok (.aload_n 0, 1) := by decide +kernel
theorem dX3_init_5 : decode cX3_init 5 = .ok (.bipush 6, 2) := by decide +kernel
theorem dX3_init_7 : decode cX3_init 7 = .ok (.anewarray 11, 3) := by decide +kernel
theorem dX3_init_10 : decode cX3_init 10 = .ok (.putfield 13, 3) := by decide +kernel
theorem dX3_init_13 : decode cX3_init 13 = .ok (.iconst 0, 1) := by decide +kernel
theorem dX3_init_14 : decode cX3_init 14 = .ok (.istore_n 1, 1) := by decide +kernel
theorem dX3_init_15 : decode cX3_init 15 = .ok (.iload_n 1, 1) := by decide +kernel
theorem dX3_init_16 : decode cX3_init 16 = .ok (.bipush 6, 2) := by decide +kernel
theorem dX3_init_18 : decode cX3_init 18 = .ok (.if_icmp .ge 22, 3) := by decide +kernel
theorem dX3_init_21 : decode cX3_init 21 = .ok (.aload_n 0, 1) := by decide +kernel
theorem dX3_init_22 : decode cX3_init 22 = .ok (.getfield 13, 3) := by decide +kernel
theorem dX3_init_25 : decode cX3_init 25 = .ok (.iload_n 1, 1) := by decide +kernel
theorem dX3_init_26 : decode cX3_init 26 = .ok (.new 11, 3) := by decide +kernel
theorem dX3_init_29 : decode cX3_init 29 = .ok (.dup, 1) := by decide +kernel
theorem dX3_init_30 : decode cX3_init 30 = .ok (.invokespecial 17, 3) := by decide +kernel
theorem dX3_init_33 : decode cX3_init 33 = .ok (.aastore, 1) := by decide +kernel
theorem dX3_init_34 : decode cX3_init 34 = .ok (.iinc 1 1, 3) := by decide +kernel
theorem dX3_init_37 : decode cX3_init 37 = .ok (.goto (-22), 3) := by decide +kernel
theorem dX3_init_40 : decode cX3_init 40 = .ok (.return_, 1) := by decide +kernel
theorem dX3_waiting_0 : decode cX3_waiting 0 = .ok (.aload_n 0, 1) := by decide +kernel
theorem dX3_waiting_1 : decode cX3_waiting 1 = .ok (.getfield 13, 3) := by decide +kernel
theorem dX3_waiting_4 : decode cX3_waiting 4 = .ok (.aload_n 0, 1) := by decide +kernel
theorem dX3_waiting_5 : decode cX3_waiting 5 = .ok (.getfield 18, 3) := by decide +kernel
theorem dX3_waiting_8 : decode cX3_waiting 8 = .ok (.bipush 6, 2) := by decide +kernel
theorem dX3_waiting_10 : decode cX3_waiting 10 = .ok (.invokestatic 22, 3) := by decide +kernel
theorem dX3_waiting_13 : decode cX3_waiting 13 = .ok (.aaload, 1) := by decide +kernel
theorem dX3_waiting_14 : decode cX3_waiting 14 = .ok (.areturn, 1) := by decide +kernel
theorem dX3_stage_0 : decode cX3_stage 0 = .ok (.aload_n 0, 1) := by decide +kernel
theorem dX3_stage_1 : decode cX3_stage 1 = .ok (.invokevirtual 28, 3) := by decide +kernel
theorem dX3_stage_4 : decode cX3_stage 4 = .ok (.aload_n 1, 1) := by decide +kernel
theorem dX3_stage_5 : decode cX3_stage 5 = .ok (.invokevirtual 32, 3) := by decide +kernel
theorem dX3_stage_8 : decode cX3_stage 8 = .ok (.return_, 1) := by decide +kernel
theorem dX3_keep_0 : decode cX3_keep 0 = .ok (.aload_n 0, 1) := by decide +kernel
theorem dX3_keep_1 : decode cX3_keep 1 = .ok (.aload_n 0, 1) := by decide +kernel
theorem dX3_keep_2 : decode cX3_keep 2 = .ok (.getfield 18, 3) := by decide +kernel
theorem dX3_keep_5 : decode cX3_keep 5 = .ok (.iconst 1, 1) := by decide +kernel
theorem dX3_keep_6 : decode cX3_keep 6 = .ok (.iadd, 1) := by decide +kernel
theorem dX3_keep_7 : decode cX3_keep 7 = .ok (.bipush 6, 2) := by decide +kernel
theorem dX3_keep_9 : decode cX3_keep 9 = .ok (.irem, 1) := by decide +kernel
theorem dX3_keep_10 : decode cX3_keep 10 = .ok (.putfield 18, 3) := by decide +kernel
theorem dX3_keep_13 : decode cX3_keep 13 = .ok (.aload_n 0, 1) := by decide +kernel
theorem dX3_keep_14 : decode cX3_keep 14 = .ok (.getfield 36, 3) := by decide +kernel
theorem dX3_keep_17 : decode cX3_keep 17 = .ok (.iconst 5, 1) := by decide +kernel
theorem dX3_keep_18 : decode cX3_keep 18 = .ok (.if_icmp .ge 13, 3) := by decide +kernel
theorem dX3_keep_21 : decode cX3_keep 21 = .ok (.aload_n 0, 1) := by decide +kernel
theorem dX3_keep_22 : decode cX3_keep 22 = .ok (.aload_n 0, 1) := by decide +kernel
theorem dX3_keep_23 : decode cX3_keep 23 = .ok (.getfield 36, 3) := by decide +kernel
theorem dX3_keep_26 : decode cX3_keep 26 = .ok (.iconst 1, 1) := by decide +kernel
theorem dX3_keep_27 : decode cX3_keep 27 = .ok (.iadd, 1) := by decide +kernel
theorem dX3_keep_28 : decode cX3_keep 28 = .ok (.putfield 36, 3) := by decide +kernel
theorem dX3_keep_31 : decode cX3_keep 31 = .ok (.return_, 1) := by decide +kernel
theorem dX3_undo_0 : decode cX3_undo 0 = .ok (.aload_n 1, 1) := by decide +kernel
theorem dX3_undo_1 : decode cX3_undo 1 = .ok (.aload_n 0, 1) := by decide +kernel
theorem dX3_undo_2 : decode cX3_undo 2 = .ok (.invokevirtual 28, 3) := by decide +kernel
theorem dX3_undo_5 : decode cX3_undo 5 = .ok (.invokevirtual 32, 3) := by decide +kernel
theorem dX3_undo_8 : decode cX3_undo 8 = .ok (.return_, 1) := by decide +kernel
theorem dX3_bringBack_0 : decode cX3_bringBack 0 = .ok (.aload_n 0, 1) := by decide +kernel
theorem dX3_bringBack_1 : decode cX3_bringBack 1 = .ok (.getfield 36, 3) := by decide +kernel
theorem dX3_bringBack_4 : decode cX3_bringBack 4 = .ok (.ifCond .ne 6, 3) := by decide +kernel
theorem dX3_bringBack_7 : decode cX3_bringBack 7 = .ok (.bipush (-3), 2) := by decide +kernel
theorem dX3_bringBack_9 : decode cX3_bringBack 9 = .ok (.ireturn, 1) := by decide +kernel
theorem dX3_bringBack_10 : decode cX3_bringBack 10 = .ok (.aload_n 0, 1) := by decide +kernel
theorem dX3_bringBack_11 : decode cX3_bringBack 11 = .ok (.aload_n 0, 1) := by decide +kernel
theorem dX3_bringBack_12 : decode cX3_bringBack 12 = .ok (.getfield 18, 3) := by decide +kernel
theorem dX3_bringBack_15 : decode cX3_bringBack 15 = .ok (.bipush 6, 2) := by decide +kernel
theorem dX3_bringBack_17 : decode cX3_bringBack 17 = .ok (.iadd, 1) := by decide +kernel
theorem dX3_bringBack_18 : decode cX3_bringBack 18 = .ok (.iconst 1, 1) := by decide +kernel
theorem dX3_bringBack_19 : decode cX3_bringBack 19 = .ok (.isub, 1) := by decide +kernel
theorem dX3_bringBack_20 : decode cX3_bringBack 20 = .ok (.bipush 6, 2) := by decide +kernel
theorem dX3_bringBack_22 : decode cX3_bringBack 22 = .ok (.irem, 1) := by decide +kernel
theorem dX3_bringBack_23 : decode cX3_bringBack 23 = .ok (.putfield 18, 3) := by decide +kernel
theorem dX3_bringBack_26 : decode cX3_bringBack 26 = .ok (.aload_n 0, 1) := by decide +kernel
theorem dX3_bringBack_27 : decode cX3_bringBack 27 = .ok (.aload_n 0, 1) := by decide +kernel
theorem dX3_bringBack_28 : decode cX3_bringBack 28 = .ok (.getfield 36, 3) := by decide +kernel
theorem dX3_bringBack_31 : decode cX3_bringBack 31 = .ok (.iconst 1, 1) := by decide +kernel
theorem dX3_bringBack_32 : decode cX3_bringBack 32 = .ok (.isub, 1) := by decide +kernel
theorem dX3_bringBack_33 : decode cX3_bringBack 33 = .ok (.putfield 36, 3) := by decide +kernel
theorem dX3_bringBack_36 : decode cX3_bringBack 36 = .ok (.aload_n 1, 1) := by decide +kernel
theorem dX3_bringBack_37 : decode cX3_bringBack 37 = .ok (.aload_n 0, 1) := by decide +kernel
theorem dX3_bringBack_38 : decode cX3_bringBack 38 = .ok (.invokevirtual 28, 3) := by decide +kernel
theorem dX3_bringBack_41 : decode cX3_bringBack 41 = .ok (.invokevirtual 32, 3) := by decide +kernel
theorem dX3_bringBack_44 : decode cX3_bringBack 44 = .ok (.aload_n 0, 1) := by decide +kernel
theorem dX3_bringBack_45 : decode cX3_bringBack 45 = .ok (.getfield 36, 3) := by decide +kernel
theorem dX3_bringBack_48 : decode cX3_bringBack 48 = .ok (.ireturn, 1) := by decide +kernel
theorem dX4_init_0 : decode cX4_init 0 = .ok (.aload_n 0, 1) := by decide +kernel
theorem dX4_init_1 : decode cX4_init 1 = .ok (.invokespecial 3, 3) := by decide +kernel
theorem dX4_init_4 : decode cX4_init 4 = .ok (.aload_n 0, 1) := by decide +kernel
theorem dX4_init_5 : decode cX4_init 5 = .ok (.bipush 120, 2) := by decide +kernel
theorem dX4_init_7 : decode cX4_init 7 = .ok (.newarray .int, 2) := by decide +kernel
theorem dX4_init_9 : decode cX4_init 9 = .ok (.putfield 9, 3) := by decide +kernel
theorem dX4_init_12 : decode cX4_init 12 = .ok (.aload_n 0, 1) := by decide +kernel
theorem dX4_init_13 : decode cX4_init 13 = .ok (.bipush 40, 2) := by decide +kernel
theorem dX4_init_15 : decode cX4_init 15 = .ok (.newarray .int, 2) := by decide +kernel
theorem dX4_init_17 : decode cX4_init 17 = .ok (.putfield 15, 3) := by decide +kernel
theorem dX4_init_20 : decode cX4_init 20 = .ok (.aload_n 0, 1) := by decide +kernel
theorem dX4_init_21 : decode cX4_init 21 = .ok (.bipush 120, 2) := by decide +kernel
theorem dX4_init_23 : decode cX4_init 23 = .ok (.newarray .int, 2) := by decide +kernel
theorem dX4_init_25 : decode cX4_init 25 = .ok (.putfield 18, 3) := by decide +kernel
theorem dX4_init_28 : decode cX4_init 28 = .ok (.return_, 1) := by decide +kernel
theorem dX4_append_0 : decode cX4_append 0 = .ok (.iload_n 1, 1) := by decide +kernel
theorem dX4_append_1 : decode cX4_append 1 = .ok (.ifCond .lt 9, 3) := by decide +kernel
theorem dX4_append_4 : decode cX4_append 4 = .ok (.iload_n 1, 1) := by decide +kernel
theorem dX4_append_5 : decode cX4_append 5 = .ok (.bipush 127, 2) := by decide +kernel
theorem dX4_append_7 : decode cX4_append 7 = .ok (.if_icmp .le 6, 3) := by decide +kernel
theorem dX4_append_10 : decode cX4_append 10 = .ok (.bipush (-2), 2) := by decide +kernel
theorem dX4_append_12 : decode cX4_append 12 = .ok (.ireturn, 1) := by decide +kernel
theorem dX4_append_13 : decode cX4_append 13 = .ok (.aload_n 0, 1) := by decide +kernel
theorem dX4_append_14 : decode cX4_append 14 = .ok (.getfield 21, 3) := by decide +kernel
theorem dX4_append_17 : decode cX4_append 17 = .ok (.ifCond .lt 12, 3) := by decide +kernel
theorem dX4_append_20 : decode cX4_append 20 = .ok (.aload_n 0, 1) := by decide +kernel
theorem dX4_append_21 : decode cX4_append 21 = .ok (.getfield 21, 3) := by decide +kernel
theorem dX4_append_24 : decode cX4_append 24 = .ok (.bipush 120, 2) := by decide +kernel
theorem dX4_append_26 : decode cX4_append 26 = .ok (.if_icmp .lt 6, 3) := by decide +kernel
theorem dX4_append_29 : decode cX4_append 29 = .ok (.bipush (-4), 2) := by decide +kernel
theorem dX4_append_31 : decode cX4_append 31 = .ok (.ireturn, 1) := by decide +kernel
theorem dX4_append_32 : decode cX4_append 32 = .ok (.aload_n 0, 1) := by decide +kernel
theorem dX4_append_33 : decode cX4_append 33 = .ok (.getfield 9, 3) := by decide +kernel
theorem dX4_append_36 : decode cX4_append 36 = .ok (.aload_n 0, 1) := by decide +kernel
theorem dX4_append_37 : decode cX4_append 37 = .ok (.getfield 21, 3) := by decide +kernel
theorem dX4_append_40 : decode cX4_append 40 = .ok (.iload_n 1, 1) := by decide +kernel
theorem dX4_append_41 : decode cX4_append 41 = .ok (.iastore, 1) := by decide +kernel
theorem dX4_append_42 : decode cX4_append 42 = .ok (.aload_n 0, 1) := by decide +kernel
theorem dX4_append_43 : decode cX4_append 43 = .ok (.aload_n 0, 1) := by decide +kernel
theorem dX4_append_44 : decode cX4_append 44 = .ok (.getfield 21, 3) := by decide +kernel
theorem dX4_append_47 : decode cX4_append 47 = .ok (.iconst 1, 1) := by decide +kernel
theorem dX4_append_48 : decode cX4_append 48 = .ok (.iadd, 1) := by decide +kernel
theorem dX4_append_49 : decode cX4_append 49 = .ok (.putfield 21, 3) := by decide +kernel
theorem dX4_append_52 : decode cX4_append 52 = .ok (.aload_n 0, 1) := by decide +kernel
theorem dX4_append_53 : decode cX4_append 53 = .ok (.getfield 21, 3) := by decide +kernel
theorem dX4_append_56 : decode cX4_append 56 = .ok (.ireturn, 1) := by decide +kernel
theorem dX4_empty_0 : decode cX4_empty 0 = .ok (.aload_n 0, 1) := by decide +kernel
theorem dX4_empty_1 : decode cX4_empty 1 = .ok (.getfield 21, 3) := by decide +kernel
theorem dX4_empty_4 : decode cX4_empty 4 = .ok (.istore_n 1, 1) := by decide +kernel
theorem dX4_empty_5 : decode cX4_empty 5 = .ok (.aload_n 0, 1) := by decide +kernel
theorem dX4_empty_6 : decode cX4_empty 6 = .ok (.iconst 0, 1) := by decide +kernel
theorem dX4_empty_7 : decode cX4_empty 7 = .ok (.putfield 21, 3) := by decide +kernel
theorem dX4_empty_10 : decode cX4_empty 10 = .ok (.iload_n 1, 1) := by decide +kernel
theorem dX4_empty_11 : decode cX4_empty 11 = .ok (.ireturn, 1) := by decide +kernel
theorem dX4_parse_0 : decode cX4_parse 0 = .ok (.aload_n 0, 1) := by decide +kernel
theorem dX4_parse_1 : decode cX4_parse 1 = .ok (.iconst 0, 1) := by decide +kernel
theorem dX4_parse_2 : decode cX4_parse 2 = .ok (.putfield 25, 3) := by decide +kernel
theorem dX4_parse_5 : decode cX4_parse 5 = .ok (.aload_n 0, 1) := by decide +kernel
theorem dX4_parse_6 : decode cX4_parse 6 = .ok (.iconst (-1), 1) := by decide +kernel
theorem dX4_parse_7 : decode cX4_parse 7 = .ok (.putfield 28, 3) := by decide +kernel
theorem dX4_parse_10 : decode cX4_parse 10 = .ok (.iconst 0, 1) := by decide +kernel
theorem dX4_parse_11 : decode cX4_parse 11 = .ok (.istore_n 1, 1) := by decide +kernel
theorem dX4_parse_12 : decode cX4_parse 12 = .ok (.iload_n 1, 1) := by decide +kernel
theorem dX4_parse_13 : decode cX4_parse 13 = .ok (.aload_n 0, 1) := by decide +kernel
theorem dX4_parse_14 : decode cX4_parse 14 = .ok (.getfield 21, 3) := by decide +kernel
theorem dX4_parse_17 : decode cX4_parse 17 = .ok (.if_icmp .ge 30, 3) := by decide +kernel
theorem dX4_parse_20 : decode cX4_parse 20 = .ok (.iload_n 1, 1) := by decide +kernel
theorem dX4_parse_21 : decode cX4_parse 21 = .ok (.bipush 120, 2) := by decide +kernel
theorem dX4_parse_23 : decode cX4_parse 23 = .ok (.if_icmp .ge 24, 3) := by decide +kernel
theorem dX4_parse_26 : decode cX4_parse 26 = .ok (.aload_n 0, 1) := by decide +kernel
theorem dX4_parse_27 : decode cX4_parse 27 = .ok (.aload_n 0, 1) := by decide +kernel
theorem dX4_parse_28 : decode cX4_parse 28 = .ok (.getfield 9, 3) := by decide +kernel
theorem dX4_parse_31 : decode cX4_parse 31 = .ok (.iload_n 1, 1) := by decide +kernel
theorem dX4_parse_32 : decode cX4_parse 32 = .ok (.iaload, 1) := by decide +kernel
theorem dX4_parse_33 : decode cX4_parse 33 = .ok (.invokevirtual 31, 3) := by decide +kernel
theorem dX4_parse_36 : decode cX4_parse 36 = .ok (.ifCond .ne 5, 3) := by decide +kernel
theorem dX4_parse_39 : decode cX4_parse 39 = .ok (.iload_n 1, 1) := by decide +kernel
theorem dX4_parse_40 : decode cX4_parse 40 = .ok (.ireturn, 1) := by decide +kernel
theorem dX4_parse_41 : decode cX4_parse 41 = .ok (.iinc 1 1, 3) := by decide +kernel
theorem dX4_parse_44 : decode cX4_parse 44 = .ok (.goto (-32), 3) := by decide +kernel
theorem dX4_parse_47 : decode cX4_parse 47 = .ok (.aload_n 0, 1) := by decide +kernel
theorem dX4_parse_48 : decode cX4_parse 48 = .ok (.getfield 28, 3) := by decide +kernel
theorem dX4_parse_51 : decode cX4_parse 51 = .ok (.iconst (-1), 1) := by decide +kernel
theorem dX4_parse_52 : decode cX4_parse 52 = .ok (.if_icmp .ne 14, 3) := by decide +kernel
theorem dX4_parse_55 : decode cX4_parse 55 = .ok (.aload_n 0, 1) := by decide +kernel
theorem dX4_parse_56 : decode cX4_parse 56 = .ok (.getfield 25, 3) := by decide +kernel
theorem dX4_parse_59 : decode cX4_parse 59 = .ok (.ifCond .le 7, 3) := by decide +kernel
theorem dX4_parse_62 : decode cX4_parse 62 = .ok (.iconst (-1), 1) := by decide +kernel
theorem dX4_parse_63 : decode cX4_parse 63 = .ok (.goto 7, 3) := by decide +kernel
theorem dX4_parse_66 : decode cX4_parse 66 = .ok (.aload_n 0, 1) := by decide +kernel
theorem dX4_parse_67 : decode cX4_parse 67 = .ok (.getfield 21, 3) := by decide +kernel
theorem dX4_parse_70 : decode cX4_parse 70 = .ok (.ireturn, 1) := by decide +kernel
theorem dX4_accepts_0 : decode cX4_accepts 0 = .ok (.aload_n 0, 1) := by decide +kernel
theorem dX4_accepts_1 : decode cX4_accepts 1 = .ok (.getfield 28, 3) := by decide +kernel
theorem dX4_accepts_4 : decode cX4_accepts 4 = .ok (.iconst (-1), 1) := by decide +kernel
theorem dX4_accepts_5 : decode cX4_accepts 5 = .ok (.if_icmp .ne 23, 3) := by decide +kernel
theorem dX4_accepts_8 : decode cX4_accepts 8 = .ok (.iload_n 1, 1) := by decide +kernel
theorem dX4_accepts_9 : decode cX4_accepts 9 = .ok (.bipush 32, 2) := by decide +kernel
theorem dX4_accepts_11 : decode cX4_accepts 11 = .ok (.if_icmp .eq 11, 3) := by decide +kernel
theorem dX4_accepts_14 : decode cX4_accepts 14 = .ok (.aload_n 0, 1) := by decide +kernel
theorem dX4_accepts_15 : decode cX4_accepts 15 = .ok (.iload_n 1, 1) := by decide +kernel
theorem dX4_accepts_16 : decode cX4_accepts 16 = .ok (.invokevirtual 35, 3) := by decide +kernel
theorem dX4_accepts_19 : decode cX4_accepts 19 = .ok (.ifCond .eq 7, 3) := by decide +kernel
theorem dX4_accepts_22 : decode cX4_accepts 22 = .ok (.iconst 1, 1) := by decide +kernel
theorem dX4_accepts_23 : decode cX4_accepts 23 = .ok (.goto 4, 3) := by decide +kernel
theorem dX4_accepts_26 : decode cX4_accepts 26 = .ok (.iconst 0, 1) := by decide +kernel
theorem dX4_accepts_27 : decode cX4_accepts 27 = .ok (.ireturn, 1) := by decide +kernel
theorem dX4_accepts_28 : decode cX4_accepts 28 = .ok (.iload_n 1, 1) := by decide +kernel
theorem dX4_accepts_29 : decode cX4_accepts 29 = .ok (.bipush 48, 2) := by decide +kernel
theorem dX4_accepts_31 : decode cX4_accepts 31 = .ok (.if_icmp .lt 18, 3) := by decide +kernel
theorem dX4_accepts_34 : decode cX4_accepts 34 = .ok (.iload_n 1, 1) := by decide +kernel
theorem dX4_accepts_35 : decode cX4_accepts 35 = .ok (.bipush 57, 2) := by decide +kernel
theorem dX4_accepts_37 : decode cX4_accepts 37 = .ok (.if_icmp .gt 12, 3) := by decide +kernel
theorem dX4_accepts_40 : decode cX4_accepts 40 = .ok (.aload_n 0, 1) := by decide +kernel
theorem dX4_accepts_41 : decode cX4_accepts 41 = .ok (.iload_n 1, 1) := by decide +kernel
theorem dX4_accepts_42 : decode cX4_accepts 42 = .ok (.bipush 48, 2) := by decide +kernel
theorem dX4_accepts_44 : decode cX4_accepts 44 = .ok (.isub, 1) := by decide +kernel
theorem dX4_accepts_45 : decode cX4_accepts 45 = .ok (.invokevirtual 38, 3) := by decide +kernel
theorem dX4_accepts_48 : decode cX4_accepts 48 = .ok (.ireturn, 1) := by decide +kernel
theorem dX4_accepts_49 : decode cX4_accepts 49 = .ok (.aload_n 0, 1) := by decide +kernel
theorem dX4_accepts_50 : decode cX4_accepts 50 = .ok (.getfield 41, 3) := by decide +kernel
theorem dX4_accepts_53 : decode cX4_accepts 53 = .ok (.ifCond .eq 5, 3) := by decide +kernel
theorem dX4_accepts_56 : decode cX4_accepts 56 = .ok (.iconst 0, 1) := by decide +kernel
theorem dX4_accepts_57 : decode cX4_accepts 57 = .ok (.ireturn, 1) := by decide +kernel
theorem dX4_accepts_58 : decode cX4_accepts 58 = .ok (.iload_n 1, 1) := by decide +kernel
theorem dX4_accepts_59 : decode cX4_accepts 59 = .ok (.lookupswitch 50 #[(32, 33), (45, 40), (59, 45)], 33) := by decide +kernel
theorem dX4_accepts_92 : decode cX4_accepts 92 = .ok (.aload_n 0, 1) := by decide +kernel
theorem dX4_accepts_93 : decode cX4_accepts 93 = .ok (.iconst 0, 1) := by decide +kernel
theorem dX4_accepts_94 : decode cX4_accepts 94 = .ok (.putfield 45, 3) := by decide +kernel
theorem dX4_accepts_97 : decode cX4_accepts 97 = .ok (.iconst 1, 1) := by decide +kernel
theorem dX4_accepts_98 : decode cX4_accepts 98 = .ok (.ireturn, 1) := by decide +kernel
theorem dX4_accepts_99 : decode cX4_accepts 99 = .ok (.aload_n 0, 1) := by decide +kernel
theorem dX4_accepts_100 : decode cX4_accepts 100 = .ok (.invokevirtual 48, 3) := by decide +kernel
theorem dX4_accepts_103 : decode cX4_accepts 103 = .ok (.ireturn, 1) := by decide +kernel
theorem dX4_accepts_104 : decode cX4_accepts 104 = .ok (.aload_n 0, 1) := by decide +kernel
theorem dX4_accepts_105 : decode cX4_accepts 105 = .ok (.invokevirtual 52, 3) := by decide +kernel
theorem dX4_accepts_108 : decode cX4_accepts 108 = .ok (.ireturn, 1) := by decide +kernel
theorem dX4_accepts_109 : decode cX4_accepts 109 = .ok (.iconst 0, 1) := by decide +kernel
theorem dX4_accepts_110 : decode cX4_accepts 110 = .ok (.ireturn, 1) := by decide +kernel
theorem dX4_acceptsLetter_0 : decode cX4_acceptsLetter 0 = .ok (.iload_n 1, 1) := by decide +kernel
theorem dX4_acceptsLetter_1 : decode cX4_acceptsLetter 1 = .ok (.invokestatic 55, 3) := by decide +kernel
theorem dX4_acceptsLetter_4 : decode cX4_acceptsLetter 4 = .ok (.ifCond .eq 19, 3) := by decide +kernel
theorem dX4_acceptsLetter_7 : decode cX4_acceptsLetter 7 = .ok (.aload_n 0, 1) := by decide +kernel
theorem dX4_acceptsLetter_8 : decode cX4_acceptsLetter 8 = .ok (.getfield 25, 3) := by decide +kernel
theorem dX4_acceptsLetter_11 : decode cX4_acceptsLetter 11 = .ok (.ifCond .lt 12, 3) := by decide +kernel
theorem dX4_acceptsLetter_14 : decode cX4_acceptsLetter 14 = .ok (.aload_n 0, 1) := by decide +kernel
theorem dX4_acceptsLetter_15 : decode cX4_acceptsLetter 15 = .ok (.getfield 25, 3) := by decide +kernel
theorem dX4_acceptsLetter_18 : decode cX4_acceptsLetter 18 = .ok (.bipush 40, 2) := by decide +kernel
theorem dX4_acceptsLetter_20 : decode cX4_acceptsLetter 20 = .ok (.if_icmp .lt 5, 3) := by decide +kernel
theorem dX4_acceptsLetter_23 : decode cX4_acceptsLetter 23 = .ok (.iconst 0, 1) := by decide +kernel
theorem dX4_acceptsLetter_24 : decode cX4_acceptsLetter 24 = .ok (.ireturn, 1) := by decide +kernel
theorem dX4_acceptsLetter_25 : decode cX4_acceptsLetter 25 = .ok (.aload_n 0, 1) := by decide +kernel
theorem dX4_acceptsLetter_26 : decode cX4_acceptsLetter 26 = .ok (.getfield 15, 3) := by decide +kernel
theorem dX4_acceptsLetter_29 : decode cX4_acceptsLetter 29 = .ok (.aload_n 0, 1) := by decide +kernel
