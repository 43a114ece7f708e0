theorem dX8_copies_0 : decode cX8_copies 0 = .ok (.iconst 0, 1) := by decide +kernel
theorem dX8_copies_1 : decode cX8_copies 1 = .ok (.istore_n 1, 1) := by decide +kernel
theorem dX8_copies_2 : decode cX8_copies 2 = .ok (.iload_n 1, 1) := by decide +kernel
theorem dX8_copies_3 : decode cX8_copies 3 = .ok (.sipush 1219, 3) := by decide +kernel
theorem dX8_copies_6 : decode cX8_copies 6 = .ok (.if_icmp .ge 21, 3) := by decide +kernel
theorem dX8_copies_9 : decode cX8_copies 9 = .ok (.aload_n 0, 1) := by decide +kernel
theorem dX8_copies_10 : decode cX8_copies 10 = .ok (.getfield 13, 3) := by decide +kernel
theorem dX8_copies_13 : decode cX8_copies 13 = .ok (.iload_n 1, 1) := by decide +kernel
theorem dX8_copies_14 : decode cX8_copies 14 = .ok (.aload_n 0, 1) := by decide +kernel
theorem dX8_copies_15 : decode cX8_copies 15 = .ok (.getfield 7, 3) := by decide +kernel
theorem dX8_copies_18 : decode cX8_copies 18 = .ok (.iload_n 1, 1) := by decide +kernel
theorem dX8_copies_19 : decode cX8_copies 19 = .ok (.iaload, 1) := by decide +kernel
theorem dX8_copies_20 : decode cX8_copies 20 = .ok (.iastore, 1) := by decide +kernel
theorem dX8_copies_21 : decode cX8_copies 21 = .ok (.iinc 1 1, 3) := by decide +kernel
theorem dX8_copies_24 : decode cX8_copies 24 = .ok (.goto (-22), 3) := by decide +kernel
theorem dX8_copies_27 : decode cX8_copies 27 = .ok (.return_, 1) := by decide +kernel
theorem dX8_remembers_0 : decode cX8_remembers 0 = .ok (.aload_n 0, 1) := by decide +kernel
theorem dX8_remembers_1 : decode cX8_remembers 1 = .ok (.getfield 43, 3) := by decide +kernel
theorem dX8_remembers_4 : decode cX8_remembers 4 = .ok (.iconst 5, 1) := by decide +kernel
theorem dX8_remembers_5 : decode cX8_remembers 5 = .ok (.if_icmp .ne 44, 3) := by decide +kernel
theorem dX8_remembers_8 : decode cX8_remembers 8 = .ok (.iconst 0, 1) := by decide +kernel
theorem dX8_remembers_9 : decode cX8_remembers 9 = .ok (.istore_n 1, 1) := by decide +kernel
theorem dX8_remembers_10 : decode cX8_remembers 10 = .ok (.iload_n 1, 1) := by decide +kernel
theorem dX8_remembers_11 : decode cX8_remembers 11 = .ok (.sipush 4876, 3) := by decide +kernel
theorem dX8_remembers_14 : decode cX8_remembers 14 = .ok (.if_icmp .ge 25, 3) := by decide +kernel
theorem dX8_remembers_17 : decode cX8_remembers 17 = .ok (.aload_n 0, 1) := by decide +kernel
theorem dX8_remembers_18 : decode cX8_remembers 18 = .ok (.getfield 16, 3) := by decide +kernel
theorem dX8_remembers_21 : decode cX8_remembers 21 = .ok (.iload_n 1, 1) := by decide +kernel
theorem dX8_remembers_22 : decode cX8_remembers 22 = .ok (.aload_n 0, 1) := by decide +kernel
theorem dX8_remembers_23 : decode cX8_remembers 23 = .ok (.getfield 16, 3) := by decide +kernel
theorem dX8_remembers_26 : decode cX8_remembers 26 = .ok (.iload_n 1, 1) := by decide +kernel
theorem dX8_remembers_27 : decode cX8_remembers 27 = .ok (.sipush 1219, 3) := by decide +kernel
theorem dX8_remembers_30 : decode cX8_remembers 30 = .ok (.iadd, 1) := by decide +kernel
theorem dX8_remembers_31 : decode cX8_remembers 31 = .ok (.iaload, 1) := by decide +kernel
theorem dX8_remembers_32 : decode cX8_remembers 32 = .ok (.iastore, 1) := by decide +kernel
theorem dX8_remembers_33 : decode cX8_remembers 33 = .ok (.iinc 1 1, 3) := by decide +kernel
theorem dX8_remembers_36 : decode cX8_remembers 36 = .ok (.goto (-26), 3) := by decide +kernel
theorem dX8_remembers_39 : decode cX8_remembers 39 = .ok (.aload_n 0, 1) := by decide +kernel
theorem dX8_remembers_40 : decode cX8_remembers 40 = .ok (.dup, 1) := by decide +kernel
theorem dX8_remembers_41 : decode cX8_remembers 41 = .ok (.getfield 43, 3) := by decide +kernel
theorem dX8_remembers_44 : decode cX8_remembers 44 = .ok (.iconst 1, 1) := by decide +kernel
theorem dX8_remembers_45 : decode cX8_remembers 45 = .ok (.isub, 1) := by decide +kernel
theorem dX8_remembers_46 : decode cX8_remembers 46 = .ok (.putfield 43, 3) := by decide +kernel
theorem dX8_remembers_49 : decode cX8_remembers 49 = .ok (.iconst 0, 1) := by decide +kernel
theorem dX8_remembers_50 : decode cX8_remembers 50 = .ok (.istore_n 1, 1) := by decide +kernel
theorem dX8_remembers_51 : decode cX8_remembers 51 = .ok (.iload_n 1, 1) := by decide +kernel
theorem dX8_remembers_52 : decode cX8_remembers 52 = .ok (.sipush 1219, 3) := by decide +kernel
theorem dX8_remembers_55 : decode cX8_remembers 55 = .ok (.if_icmp .ge 30, 3) := by decide +kernel
theorem dX8_remembers_58 : decode cX8_remembers 58 = .ok (.aload_n 0, 1) := by decide +kernel
theorem dX8_remembers_59 : decode cX8_remembers 59 = .ok (.getfield 16, 3) := by decide +kernel
theorem dX8_remembers_62 : decode cX8_remembers 62 = .ok (.sipush 1219, 3) := by decide +kernel
theorem dX8_remembers_65 : decode cX8_remembers 65 = .ok (.aload_n 0, 1) := by decide +kernel
theorem dX8_remembers_66 : decode cX8_remembers 66 = .ok (.getfield 43, 3) := by decide +kernel
theorem dX8_remembers_69 : decode cX8_remembers 69 = .ok (.imul, 1) := by decide +kernel
theorem dX8_remembers_70 : decode cX8_remembers 70 = .ok (.iload_n 1, 1) := by decide +kernel
theorem dX8_remembers_71 : decode cX8_remembers 71 = .ok (.iadd, 1) := by decide +kernel
theorem dX8_remembers_72 : decode cX8_remembers 72 = .ok (.aload_n 0, 1) := by decide +kernel
theorem dX8_remembers_73 : decode cX8_remembers 73 = .ok (.getfield 13, 3) := by decide +kernel
theorem dX8_remembers_76 : decode cX8_remembers 76 = .ok (.iload_n 1, 1) := by decide +kernel
theorem dX8_remembers_77 : decode cX8_remembers 77 = .ok (.iaload, 1) := by decide +kernel
theorem dX8_remembers_78 : decode cX8_remembers 78 = .ok (.iastore, 1) := by decide +kernel
theorem dX8_remembers_79 : decode cX8_remembers 79 = .ok (.iinc 1 1, 3) := by decide +kernel
theorem dX8_remembers_82 : decode cX8_remembers 82 = .ok (.goto (-31), 3) := by decide +kernel
theorem dX8_remembers_85 : decode cX8_remembers 85 = .ok (.aload_n 0, 1) := by decide +kernel
theorem dX8_remembers_86 : decode cX8_remembers 86 = .ok (.dup, 1) := by decide +kernel
theorem dX8_remembers_87 : decode cX8_remembers 87 = .ok (.getfield 43, 3) := by decide +kernel
theorem dX8_remembers_90 : decode cX8_remembers 90 = .ok (.iconst 1, 1) := by decide +kernel
theorem dX8_remembers_91 : decode cX8_remembers 91 = .ok (.iadd, 1) := by decide +kernel
theorem dX8_remembers_92 : decode cX8_remembers 92 = .ok (.putfield 43, 3) := by decide +kernel
theorem dX8_remembers_95 : decode cX8_remembers 95 = .ok (.return_, 1) := by decide +kernel
theorem dX8_back_0 : decode cX8_back 0 = .ok (.aload_n 0, 1) := by decide +kernel
theorem dX8_back_1 : decode cX8_back 1 = .ok (.getfield 43, 3) := by decide +kernel
theorem dX8_back_4 : decode cX8_back 4 = .ok (.ifCond .ne 16, 3) := by decide +kernel
theorem dX8_back_7 : decode cX8_back 7 = .ok (.aload_n 0, 1) := by decide +kernel
theorem dX8_back_8 : decode cX8_back 8 = .ok (.getfield 19, 3) := by decide +kernel
theorem dX8_back_11 : decode cX8_back 11 = .ok (.iconst 1, 1) := by decide +kernel
theorem dX8_back_12 : decode cX8_back 12 = .ok (.dup2, 1) := by decide +kernel
theorem dX8_back_13 : decode cX8_back 13 = .ok (.iaload, 1) := by decide +kernel
theorem dX8_back_14 : decode cX8_back 14 = .ok (.iconst 1, 1) := by decide +kernel
theorem dX8_back_15 : decode cX8_back 15 = .ok (.iadd, 1) := by decide +kernel
theorem dX8_back_16 : decode cX8_back 16 = .ok (.iastore, 1) := by decide +kernel
theorem dX8_back_17 : decode cX8_back 17 = .ok (.bipush (-3), 2) := by decide +kernel
theorem dX8_back_19 : decode cX8_back 19 = .ok (.ireturn, 1) := by decide +kernel
theorem dX8_back_20 : decode cX8_back 20 = .ok (.aload_n 0, 1) := by decide +kernel
theorem dX8_back_21 : decode cX8_back 21 = .ok (.dup, 1) := by decide +kernel
theorem dX8_back_22 : decode cX8_back 22 = .ok (.getfield 43, 3) := by decide +kernel
theorem dX8_back_25 : decode cX8_back 25 = .ok (.iconst 1, 1) := by decide +kernel
theorem dX8_back_26 : decode cX8_back 26 = .ok (.isub, 1) := by decide +kernel
theorem dX8_back_27 : decode cX8_back 27 = .ok (.putfield 43, 3) := by decide +kernel
theorem dX8_back_30 : decode cX8_back 30 = .ok (.iconst 0, 1) := by decide +kernel
theorem dX8_back_31 : decode cX8_back 31 = .ok (.istore_n 1, 1) := by decide +kernel
theorem dX8_back_32 : decode cX8_back 32 = .ok (.iload_n 1, 1) := by decide +kernel
theorem dX8_back_33 : decode cX8_back 33 = .ok (.sipush 1219, 3) := by decide +kernel
theorem dX8_back_36 : decode cX8_back 36 = .ok (.if_icmp .ge 30, 3) := by decide +kernel
theorem dX8_back_39 : decode cX8_back 39 = .ok (.aload_n 0, 1) := by decide +kernel
theorem dX8_back_40 : decode cX8_back 40 = .ok (.getfield 7, 3) := by decide +kernel
theorem dX8_back_43 : decode cX8_back 43 = .ok (.iload_n 1, 1) := by decide +kernel
theorem dX8_back_44 : decode cX8_back 44 = .ok (.aload_n 0, 1) := by decide +kernel
theorem dX8_back_45 : decode cX8_back 45 = .ok (.getfield 16, 3) := by decide +kernel
theorem dX8_back_48 : decode cX8_back 48 = .ok (.sipush 1219, 3) := by decide +kernel
theorem dX8_back_51 : decode cX8_back 51 = .ok (.aload_n 0, 1) := by decide +kernel
theorem dX8_back_52 : decode cX8_back 52 = .ok (.getfield 43, 3) := by decide +kernel
theorem dX8_back_55 : decode cX8_back 55 = .ok (.imul, 1) := by decide +kernel
theorem dX8_back_56 : decode cX8_back 56 = .ok (.iload_n 1, 1) := by decide +kernel
theorem dX8_back_57 : decode cX8_back 57 = .ok (.iadd, 1) := by decide +kernel
theorem dX8_back_58 : decode cX8_back 58 = .ok (.iaload, 1) := by decide +kernel
theorem dX8_back_59 : decode cX8_back 59 = .ok (.iastore, 1) := by decide +kernel
theorem dX8_back_60 : decode cX8_back 60 = .ok (.iinc 1 1, 3) := by decide +kernel
theorem dX8_back_63 : decode cX8_back 63 = .ok (.goto (-31), 3) := by decide +kernel
theorem dX8_back_66 : decode cX8_back 66 = .ok (.aload_n 0, 1) := by decide +kernel
theorem dX8_back_67 : decode cX8_back 67 = .ok (.getfield 43, 3) := by decide +kernel
theorem dX8_back_70 : decode cX8_back 70 = .ok (.ireturn, 1) := by decide +kernel
theorem dX8_counted_0 : decode cX8_counted 0 = .ok (.iload_n 1, 1) := by decide +kernel
theorem dX8_counted_1 : decode cX8_counted 1 = .ok (.bipush (-2), 2) := by decide +kernel
theorem dX8_counted_3 : decode cX8_counted 3 = .ok (.if_icmp .ne 16, 3) := by decide +kernel
theorem dX8_counted_6 : decode cX8_counted 6 = .ok (.aload_n 0, 1) := by decide +kernel
theorem dX8_counted_7 : decode cX8_counted 7 = .ok (.getfield 19, 3) := by decide +kernel
theorem dX8_counted_10 : decode cX8_counted 10 = .ok (.iconst 0, 1) := by decide +kernel
theorem dX8_counted_11 : decode cX8_counted 11 = .ok (.dup2, 1) := by decide +kernel
theorem dX8_counted_12 : decode cX8_counted 12 = .ok (.iaload, 1) := by decide +kernel
theorem dX8_counted_13 : decode cX8_counted 13 = .ok (.iconst 1, 1) := by decide +kernel
theorem dX8_counted_14 : decode cX8_counted 14 = .ok (.iadd, 1) := by decide +kernel
theorem dX8_counted_15 : decode cX8_counted 15 = .ok (.iastore, 1) := by decide +kernel
theorem dX8_counted_16 : decode cX8_counted 16 = .ok (.goto 51, 3) := by decide +kernel
theorem dX8_counted_19 : decode cX8_counted 19 = .ok (.iload_n 1, 1) := by decide +kernel
theorem dX8_counted_20 : decode cX8_counted 20 = .ok (.bipush (-4), 2) := by decide +kernel
theorem dX8_counted_22 : decode cX8_counted 22 = .ok (.if_icmp .ne 16, 3) := by decide +kernel
theorem dX8_counted_25 : decode cX8_counted 25 = .ok (.aload_n 0, 1) := by decide +kernel
theorem dX8_counted_26 : decode cX8_counted 26 = .ok (.getfield 19, 3) := by decide +kernel
theorem dX8_counted_29 : decode cX8_counted 29 = .ok (.iconst 2, 1) := by decide +kernel
theorem dX8_counted_30 : decode cX8_counted 30 = .ok (.dup2, 1) := by decide +kernel
theorem dX8_counted_31 : decode cX8_counted 31 = .ok (.iaload, 1) := by decide +kernel
theorem dX8_counted_32 : decode cX8_counted 32 = .ok (.iconst 1, 1) := by decide +kernel
theorem dX8_counted_33 : decode cX8_counted 33 = .ok (.iadd, 1) := by decide +kernel
theorem dX8_counted_34 : decode cX8_counted 34 = .ok (.iastore, 1) := by decide +kernel
theorem dX8_counted_35 : decode cX8_counted 35 = .ok (.goto 32, 3) := by decide +kernel
theorem dX8_counted_38 : decode cX8_counted 38 = .ok (.iload_n 1, 1) := by decide +kernel
theorem dX8_counted_39 : decode cX8_counted 39 = .ok (.bipush (-10), 2) := by decide +kernel
theorem dX8_counted_41 : decode cX8_counted 41 = .ok (.if_icmp .gt 26, 3) := by decide +kernel
theorem dX8_counted_44 : decode cX8_counted 44 = .ok (.aload_n 0, 1) := by decide +kernel
theorem dX8_counted_45 : decode cX8_counted 45 = .ok (.getfield 22, 3) := by decide +kernel
theorem dX8_counted_48 : decode cX8_counted 48 = .ok (.bipush (-10), 2) := by decide +kernel
theorem dX8_counted_50 : decode cX8_counted 50 = .ok (.iload_n 1, 1) := by decide +kernel
theorem dX8_counted_51 : decode cX8_counted 51 = .ok (.isub, 1) := by decide +kernel
theorem dX8_counted_52 : decode cX8_counted 52 = .ok (.dup2, 1) := by decide +kernel
theorem dX8_counted_53 : decode cX8_counted 53 = .ok (.iaload, 1) := by decide +kernel
theorem dX8_counted_54 : decode cX8_counted 54 = .ok (.iconst 1, 1) := by decide +kernel
theorem dX8_counted_55 : decode cX8_counted 55 = .ok (.iadd, 1) := by decide +kernel
theorem dX8_counted_56 : decode cX8_counted 56 = .ok (.iastore, 1) := by decide +kernel
theorem dX8_counted_57 : decode cX8_counted 57 = .ok (.aload_n 0, 1) := by decide +kernel
theorem dX8_counted_58 : decode cX8_counted 58 = .ok (.getfield 22, 3) := by decide +kernel
theorem dX8_counted_61 : decode cX8_counted 61 = .ok (.iconst 0, 1) := by decide +kernel
theorem dX8_counted_62 : decode cX8_counted 62 = .ok (.dup2, 1) := by decide +kernel
theorem dX8_counted_63 : decode cX8_counted 63 = .ok (.iaload, 1) := by decide +kernel
theorem dX8_counted_64 : decode cX8_counted 64 = .ok (.iconst 1, 1) := by decide +kernel
theorem dX8_counted_65 : decode cX8_counted 65 = .ok (.iadd, 1) := by decide +kernel
theorem dX8_counted_66 : decode cX8_counted 66 = .ok (.iastore, 1) := by decide +kernel
theorem dX8_counted_67 : decode cX8_counted 67 = .ok (.iload_n 1, 1) := by decide +kernel
theorem dX8_counted_68 : decode cX8_counted 68 = .ok (.ireturn, 1) := by decide +kernel
theorem dX8_piecePlace_0 : decode cX8_piecePlace 0 = .ok (.iconst 1, 1) := by decide +kernel
theorem dX8_piecePlace_1 : decode cX8_piecePlace 1 = .ok (.bipush 15, 2) := by decide +kernel
theorem dX8_piecePlace_3 : decode cX8_piecePlace 3 = .ok (.iload_n 0, 1) := by decide +kernel
theorem dX8_piecePlace_4 : decode cX8_piecePlace 4 = .ok (.imul, 1) := by decide +kernel
theorem dX8_piecePlace_5 : decode cX8_piecePlace 5 = .ok (.iadd, 1) := by decide +kernel
theorem dX8_piecePlace_6 : decode cX8_piecePlace 6 = .ok (.ireturn, 1) := by decide +kernel
theorem dX8_sizeOf_0 : decode cX8_sizeOf 0 = .ok (.aload_n 0, 1) := by decide +kernel
theorem dX8_sizeOf_1 : decode cX8_sizeOf 1 = .ok (.getfield 7, 3) := by decide +kernel
theorem dX8_sizeOf_4 : decode cX8_sizeOf 4 = .ok (.iload_n 1, 1) := by decide +kernel
theorem dX8_sizeOf_5 : decode cX8_sizeOf 5 = .ok (.invokestatic 47, 3) := by decide +kernel
theorem dX8_sizeOf_8 : decode cX8_sizeOf 8 = .ok (.iaload, 1) := by decide +kernel
theorem dX8_sizeOf_9 : decode cX8_sizeOf 9 = .ok (.ireturn, 1) := by decide +kernel
theorem dX8_isLive_0 : decode cX8_isLive 0 = .ok (.aload_n 0, 1) := by decide +kernel
theorem dX8_isLive_1 : decode cX8_isLive 1 = .ok (.getfield 7, 3) := by decide +kernel
theorem dX8_isLive_4 : decode cX8_isLive 4 = .ok (.iload_n 1, 1) := by decide +kernel
theorem dX8_isLive_5 : decode cX8_isLive 5 = .ok (.invokestatic 47, 3) := by decide +kernel
theorem dX8_isLive_8 : decode cX8_isLive 8 = .ok (.iconst 1, 1) := by decide +kernel
theorem dX8_isLive_9 : decode cX8_isLive 9 = .ok (.iadd, 1) := by decide +kernel
theorem dX8_isLive_10 : decode cX8_isLive 10 = .ok (.iaload, 1) := by decide +kernel
theorem dX8_isLive_11 : decode cX8_isLive 11 = .ok (.iconst 1, 1) := by decide +kernel
theorem dX8_isLive_12 : decode cX8_isLive 12 = .ok (.if_icmp .ne 7, 3) := by decide +kernel
theorem dX8_isLive_15 : decode cX8_isLive 15 = .ok (.iconst 1, 1) := by decide +kernel
theorem dX8_isLive_16 : decode cX8_isLive 16 = .ok (.goto 4, 3) := by decide +kernel
theorem dX8_isLive_19 : decode cX8_isLive 19 = .ok (.iconst 0, 1) := by decide +kernel
theorem dX8_isLive_20 : decode cX8_isLive 20 = .ok (.ireturn, 1) := by decide +kernel
theorem dX8_isFrozen_0 : decode cX8_isFrozen 0 = .ok (.aload_n 0, 1) := by decide +kernel
theorem dX8_isFrozen_1 : decode cX8_isFrozen 1 = .ok (.getfield 7, 3) := by decide +kernel
theorem dX8_isFrozen_4 : decode cX8_isFrozen 4 = .ok (.iload_n 1, 1) := by decide +kernel
theorem dX8_isFrozen_5 : decode cX8_isFrozen 5 = .ok (.invokestatic 47, 3) := by decide +kernel
theorem dX8_isFrozen_8 : decode cX8_isFrozen 8 = .ok (.iconst 2, 1) := by decide +kernel
theorem dX8_isFrozen_9 : decode cX8_isFrozen 9 = .ok (.iadd, 1) := by decide +kernel
theorem dX8_isFrozen_10 : decode cX8_isFrozen 10 = .ok (.iaload, 1) := by decide +kernel
theorem dX8_isFrozen_11 : decode cX8_isFrozen 11 = .ok (.iconst 1, 1) := by decide +kernel
theorem dX8_isFrozen_12 : decode cX8_isFrozen 12 = .ok (.if_icmp .ne 7, 3) := by decide +kernel
theorem dX8_isFrozen_15 : decode cX8_isFrozen 15 = .ok (.iconst 1, 1) := by decide +kernel
theorem dX8_isFrozen_16 : decode cX8_isFrozen 16 = .ok (.goto 4, 3) := by decide +kernel
theorem dX8_isFrozen_19 : decode cX8_isFrozen 19 = .ok (.iconst 0, 1) := by decide +kernel
theorem dX8_isFrozen_20 : decode cX8_isFrozen 20 = .ok (.ireturn, 1) := by decide +kernel
theorem dX8_bytePlace_0 : decode cX8_bytePlace 0 = .ok (.iload_n 0, 1) := by decide +kernel
theorem dX8_bytePlace_1 : decode cX8_bytePlace 1 = .ok (.invokestatic 47, 3) := by decide +kernel
theorem dX8_bytePlace_4 : decode cX8_bytePlace 4 = .ok (.iconst 3, 1) := by decide +kernel
theorem dX8_bytePlace_5 : decode cX8_bytePlace 5 = .ok (.iadd, 1) := by decide +kernel
theorem dX8_bytePlace_6 : decode cX8_bytePlace 6 = .ok (.iload_n 1, 1) := by decide +kernel
theorem dX8_bytePlace_7 : decode cX8_bytePlace 7 = .ok (.iadd, 1) := by decide +kernel
theorem dX8_bytePlace_8 : decode cX8_bytePlace 8 = .ok (.ireturn, 1) := by decide +kernel
theorem dX8_isRegister_0 : decode cX8_isRegister 0 = .ok (.iload_n 0, 1) := by decide +kernel
theorem dX8_isRegister_1 : decode cX8_isRegister 1 = .ok (.iconst 0, 1) := by decide +kernel
theorem dX8_isRegister_2 : decode cX8_isRegister 2 = .ok (.iconst 5, 1) := by decide +kernel
theorem dX8_isRegister_3 : decode cX8_isRegister 3 = .ok (.invokestatic 51, 3) := by decide +kernel
theorem dX8_isRegister_6 : decode cX8_isRegister 6 = .ok (.ireturn, 1) := by decide +kernel
theorem dX8_kindOf_0 : decode cX8_kindOf 0 = .ok (.aload_n 0, 1) := by decide +kernel
theorem dX8_kindOf_1 : decode cX8_kindOf 1 = .ok (.getfield 7, 3) := by decide +kernel
theorem dX8_kindOf_4 : decode cX8_kindOf 4 = .ok (.sipush 151, 3) := by decide +kernel
theorem dX8_kindOf_7 : decode cX8_kindOf 7 = .ok (.iconst 3, 1) := by decide +kernel
theorem dX8_kindOf_8 : decode cX8_kindOf 8 = .ok (.iload_n 1, 1) := by decide +kernel
theorem dX8_kindOf_9 : decode cX8_kindOf 9 = .ok (.imul, 1) := by decide +kernel
theorem dX8_kindOf_10 : decode cX8_kindOf 10 = .ok (.iadd, 1) := by decide +kernel
theorem dX8_kindOf_11 : decode cX8_kindOf 11 = .ok (.iaload, 1) := by decide +kernel
theorem dX8_kindOf_12 : decode cX8_kindOf 12 = .ok (.ireturn, 1) := by decide +kernel
theorem dX8_valueOf_0 : decode cX8_valueOf 0 = .ok (.aload_n 0, 1) := by decide +kernel
theorem dX8_valueOf_1 : decode cX8_valueOf 1 = .ok (.getfield 7, 3) := by decide +kernel
theorem dX8_valueOf_4 : decode cX8_valueOf 4 = .ok (.sipush 151, 3) := by decide +kernel
theorem dX8_valueOf_7 : decode cX8_valueOf 7 = .ok (.iconst 3, 1) := by decide +kernel
theorem dX8_valueOf_8 : decode cX8_valueOf 8 = .ok (.iload_n 1, 1) := by decide +kernel
theorem dX8_valueOf_9 : decode cX8_valueOf 9 = .ok (.imul, 1) := by decide +kernel
theorem dX8_valueOf_10 : decode cX8_valueOf 10 = .ok (.iadd, 1) := by decide +kernel
theorem dX8_valueOf_11 : decode cX8_valueOf 11 = .ok (.iconst 1, 1) := by decide +kernel
theorem dX8_valueOf_12 : decode cX8_valueOf 12 = .ok (.iadd, 1) := by decide +kernel
theorem dX8_valueOf_13 : decode cX8_valueOf 13 = .ok (.iaload, 1) := by decide +kernel
theorem dX8_valueOf_14 : decode cX8_valueOf 14 = .ok (.ireturn, 1) := by decide +kernel
theorem dX8_placeOf_0 : decode cX8_placeOf 0 = .ok (.aload_n 0, 1) := by decide +kernel
theorem dX8_placeOf_1 : decode cX8_placeOf 1 = .ok (.getfield 7, 3) := by decide +kernel
theorem dX8_placeOf_4 : decode cX8_placeOf 4 = .ok (.sipush 151, 3) := by decide +kernel
theorem dX8_placeOf_7 : decode cX8_placeOf 7 = .ok (.iconst 3, 1) := by decide +kernel
theorem dX8_placeOf_8 : decode cX8_placeOf 8 = .ok (.iload_n 1, 1) := by decide +kernel
theorem dX8_placeOf_9 : decode cX8_placeOf 9 = .ok (.imul, 1) := by decide +kernel
theorem dX8_placeOf_10 : decode cX8_placeOf 10 = .ok (.iadd, 1) := by decide +kernel
theorem dX8_placeOf_11 : decode cX8_placeOf 11 = .ok (.iconst 2, 1) := by decide +kernel
theorem dX8_placeOf_12 : decode cX8_placeOf 12 = .ok (.iadd, 1) := by decide +kernel
theorem dX8_placeOf_13 : decode cX8_placeOf 13 = .ok (.iaload, 1) := by decide +kernel
theorem dX8_placeOf_14 : decode cX8_placeOf 14 = .ok (.ireturn, 1) := by decide +kernel
theorem dX8_tells_0 : decode cX8_tells 0 = .ok (.aload_n 0, 1) := by decide +kernel
theorem dX8_tells_1 : decode cX8_tells 1 = .ok (.getfield 7, 3) := by decide +kernel
theorem dX8_tells_4 : decode cX8_tells 4 = .ok (.sipush 151, 3) := by decide +kernel
theorem dX8_tells_7 : decode cX8_tells 7 = .ok (.iconst 3, 1) := by decide +kernel
theorem dX8_tells_8 : decode cX8_tells 8 = .ok (.iload_n 1, 1) := by decide +kernel
theorem dX8_tells_9 : decode cX8_tells 9 = .ok (.imul, 1) := by decide +kernel
theorem dX8_tells_10 : decode cX8_tells 10 = .ok (.iadd, 1) := by decide +kernel
theorem dX8_tells_11 : decode cX8_tells 11 = .ok (.iload_n 2, 1) := by decide +kernel
theorem dX8_tells_12 : decode cX8_tells 12 = .ok (.iastore, 1) := by decide +kernel
theorem dX8_tells_13 : decode cX8_tells 13 = .ok (.aload_n 0, 1) := by decide +kernel
theorem dX8_tells_14 : decode cX8_tells 14 = .ok (.getfield 7, 3) := by decide +kernel
theorem dX8_tells_17 : decode cX8_tells 17 = .ok (.sipush 151, 3) := by decide +kernel
theorem dX8_tells_20 : decode cX8_tells 20 = .ok (.iconst 3, 1) := by decide +kernel
theorem dX8_tells_21 : decode cX8_tells 21 = .ok (.iload_n 1, 1) := by decide +kernel
theorem dX8_tells_22 : decode cX8_tells 22 = .ok (.imul, 1) := by decide +kernel
theorem dX8_tells_23 : decode cX8_tells 23 = .ok (.iadd, 1) := by decide +kernel
theorem dX8_tells_24 : decode cX8_tells 24 = .ok (.iconst 1, 1) := by decide +kernel
theorem dX8_tells_25 : decode cX8_tells 25 = .ok (.iadd, 1) := by decide +kernel
theorem dX8_tells_26 : decode cX8_tells 26 = .ok (.iload_n 3, 1) := by decide +kernel
theorem dX8_tells_27 : decode cX8_tells 27 = .ok (.iastore, 1) := by decide +kernel
theorem dX8_tells_28 : decode cX8_tells 28 = .ok (.aload_n 0, 1) := by decide +kernel
theorem dX8_tells_29 : decode cX8_tells 29 = .ok (.getfield 7, 3) := by decide +kernel
theorem dX8_tells_32 : decode cX8_tells 32 = .ok (.sipush 151, 3) := by decide +kernel
theorem dX8_tells_35 : decode cX8_tells 35 = .ok (.iconst 3, 1) := by decide +kernel
theorem dX8_tells_36 : decode cX8_tells 36 = .ok (.iload_n 1, 1) := by decide +kernel
theorem dX8_tells_37 : decode cX8_tells 37 = .ok (.imul, 1) := by decide +kernel
theorem dX8_tells_38 : decode cX8_tells 38 = .ok (.iadd, 1) := by decide +kernel
theorem dX8_tells_39 : decode cX8_tells 39 = .ok (.iconst 2, 1) := by decide +kernel
theorem dX8_tells_40 : decode cX8_tells 40 = .ok (.iadd, 1) := by decide +kernel
theorem dX8_tells_41 : decode cX8_tells 41 = .ok (.iload 4, 2) := by decide +kernel
theorem dX8_tells_43 : decode cX8_tells 43 = .ok (.iastore, 1) := by decide +kernel
theorem dX8_tells_44 : decode cX8_tells 44 = .ok (.iload_n 2, 1) := by decide +kernel
theorem dX8_tells_45 : decode cX8_tells 45 = .ok (.ireturn, 1) := by decide +kernel
theorem dX8_undefinedAs_0 : decode cX8_undefinedAs 0 = .ok (.bipush (-10), 2) := by decide +kernel
theorem dX8_undefinedAs_2 : decode cX8_undefinedAs 2 = .ok (.iload_n 0, 1) := by decide +kernel
theorem dX8_undefinedAs_3 : decode cX8_undefinedAs 3 = .ok (.isub, 1) := by decide +kernel
theorem dX8_undefinedAs_4 : decode cX8_undefinedAs 4 = .ok (.ireturn, 1) := by decide +kernel
theorem dX8_notGood_0 : decode cX8_notGood 0 = .ok (.aload_n 0, 1) := by decide +kernel
theorem dX8_notGood_1 : decode cX8_notGood 1 = .ok (.iload_n 1, 1) := by decide +kernel
theorem dX8_notGood_2 : decode cX8_notGood 2 = .ok (.invokevirtual 55, 3) := by decide +kernel
theorem dX8_notGood_5 : decode cX8_notGood 5 = .ok (.iconst 2, 1) := by decide +kernel
theorem dX8_notGood_6 : decode cX8_notGood 6 = .ok (.if_icmp .eq 17, 3) := by decide +kernel
theorem dX8_notGood_9 : decode cX8_notGood 9 = .ok (.aload_n 0, 1) := by decide +kernel
theorem dX8_notGood_10 : decode cX8_notGood 10 = .ok (.iload_n 1, 1) := by decide +kernel
theorem dX8_notGood_11 : decode cX8_notGood 11 = .ok (.invokevirtual 55, 3) := by decide +kernel
theorem dX8_notGood_14 : decode cX8_notGood 14 = .ok (.ifCond .ne 7, 3) := by decide +kernel
theorem dX8_notGood_17 : decode cX8_notGood 17 = .ok (.iconst 1, 1) := by decide +kernel
theorem dX8_notGood_18 : decode cX8_notGood 18 = .ok (.goto 4, 3) := by decide +kernel
theorem dX8_notGood_21 : decode cX8_notGood 21 = .ok (.iconst 2, 1) := by decide +kernel
theorem dX8_notGood_22 : decode cX8_notGood 22 = .ok (.ireturn, 1) := by decide +kernel
theorem dX8_notGood_23 : decode cX8_notGood 23 = .ok (.aload_n 0, 1) := by decide +kernel
theorem dX8_notGood_24 : decode cX8_notGood 24 = .ok (.aload_n 0, 1) := by decide +kernel
theorem dX8_notGood_25 : decode cX8_notGood 25 = .ok (.iload_n 1, 1) := by decide +kernel
theorem dX8_notGood_26 : decode cX8_notGood 26 = .ok (.invokevirtual 58, 3) := by decide +kernel
theorem dX8_notGood_29 : decode cX8_notGood 29 = .ok (.invokevirtual 61, 3) := by decide +kernel
theorem dX8_notGood_32 : decode cX8_notGood 32 = .ok (.ifCond .eq 7, 3) := by decide +kernel
theorem dX8_notGood_35 : decode cX8_notGood 35 = .ok (.iconst 0, 1) := by decide +kernel
theorem dX8_notGood_36 : decode cX8_notGood 36 = .ok (.goto 4, 3) := by decide +kernel
theorem dX8_notGood_39 : decode cX8_notGood 39 = .ok (.iconst 3, 1) := by decide +kernel
theorem dX8_notGood_40 : decode cX8_notGood 40 = .ok (.ireturn, 1) := by decide +kernel
theorem dX8_isWithin_0 : decode cX8_isWithin 0 = .ok (.aload_n 0, 1) := by decide +kernel
theorem dX8_isWithin_1 : decode cX8_isWithin 1 = .ok (.iload_n 1, 1) := by decide +kernel
theorem dX8_isWithin_2 : decode cX8_isWithin 2 = .ok (.invokevirtual 65, 3) := by decide +kernel
theorem dX8_isWithin_5 : decode cX8_isWithin 5 = .ok (.iload_n 2, 1) := by decide +kernel
theorem dX8_isWithin_6 : decode cX8_isWithin 6 = .ok (.iadd, 1) := by decide +kernel
theorem dX8_isWithin_7 : decode cX8_isWithin 7 = .ok (.aload_n 0, 1) := by decide +kernel
theorem dX8_isWithin_8 : decode cX8_isWithin 8 = .ok (.aload_n 0, 1) := by decide +kernel
theorem dX8_isWithin_9 : decode cX8_isWithin 9 = .ok (.iload_n 1, 1) := by decide +kernel
theorem dX8_isWithin_10 : decode cX8_isWithin 10 = .ok (.invokevirtual 58, 3) := by decide +kernel
theorem dX8_isWithin_13 : decode cX8_isWithin 13 = .ok (.invokevirtual 68, 3) := by decide +kernel
theorem dX8_isWithin_16 : decode cX8_isWithin 16 = .ok (.if_icmp .gt 7, 3) := by decide +kernel
theorem dX8_isWithin_19 : decode cX8_isWithin 19 = .ok (.iconst 1, 1) := by decide +kernel
theorem dX8_isWithin_20 : decode cX8_isWithin 20 = .ok (.goto 4, 3) := by decide +kernel
theorem dX8_isWithin_23 : decode cX8_isWithin 23 = .ok (.iconst 0, 1) := by decide +kernel
theorem dX8_isWithin_24 : decode cX8_isWithin 24 = .ok (.ireturn, 1) := by decide +kernel
theorem dX8_notGoodFor_0 : decode cX8_notGoodFor 0 = .ok (.aload_n 0, 1) := by decide +kernel
theorem dX8_notGoodFor_1 : decode cX8_notGoodFor 1 = .ok (.iload_n 1, 1) := by decide +kernel
theorem dX8_notGoodFor_2 : decode cX8_notGoodFor 2 = .ok (.invokevirtual 71, 3) := by decide +kernel
theorem dX8_notGoodFor_5 : decode cX8_notGoodFor 5 = .ok (.istore_n 3, 1) := by decide +kernel
theorem dX8_notGoodFor_6 : decode cX8_notGoodFor 6 = .ok (.iload_n 3, 1) := by decide +kernel
theorem dX8_notGoodFor_7 : decode cX8_notGoodFor 7 = .ok (.ifCond .ne 16, 3) := by decide +kernel
theorem dX8_notGoodFor_10 : decode cX8_notGoodFor 10 = .ok (.aload_n 0, 1) := by decide +kernel
theorem dX8_notGoodFor_11 : decode cX8_notGoodFor 11 = .ok (.iload_n 1, 1) := by decide +kernel
theorem dX8_notGoodFor_12 : decode cX8_notGoodFor 12 = .ok (.iload_n 2, 1) := by decide +kernel
theorem dX8_notGoodFor_13 : decode cX8_notGoodFor 13 = .ok (.invokevirtual 74, 3) := by decide +kernel
theorem dX8_notGoodFor_16 : decode cX8_notGoodFor 16 = .ok (.ifCond .ne 7, 3) := by decide +kernel
theorem dX8_notGoodFor_19 : decode cX8_notGoodFor 19 = .ok (.iconst 5, 1) := by decide +kernel
theorem dX8_notGoodFor_20 : decode cX8_notGoodFor 20 = .ok (.goto 4, 3) := by decide +kernel
theorem dX8_notGoodFor_23 : decode cX8_notGoodFor 23 = .ok (.iload_n 3, 1) := by decide +kernel
theorem dX8_notGoodFor_24 : decode cX8_notGoodFor 24 = .ok (.ireturn, 1) := by decide +kernel
theorem dX8_notToWrite_0 : decode cX8_notToWrite 0 = .ok (.aload_n 0, 1) := by decide +kernel
theorem dX8_notToWrite_1 : decode cX8_notToWrite 1 = .ok (.iload_n 1, 1) := by decide +kernel
theorem dX8_notToWrite_2 : decode cX8_notToWrite 2 = .ok (.invokevirtual 71, 3) := by decide +kernel
theorem dX8_notToWrite_5 : decode cX8_notToWrite 5 = .ok (.istore_n 3, 1) := by decide +kernel
theorem dX8_notToWrite_6 : decode cX8_notToWrite 6 = .ok (.iload_n 3, 1) := by decide +kernel
theorem dX8_notToWrite_7 : decode cX8_notToWrite 7 = .ok (.ifCond .eq 5, 3) := by decide +kernel
theorem dX8_notToWrite_10 : decode cX8_notToWrite 10 = .ok (.iload_n 3, 1) := by decide +kernel
theorem dX8_notToWrite_11 : decode cX8_notToWrite 11 = .ok (.ireturn, 1) := by decide +kernel
theorem dX8_notToWrite_12 : decode cX8_notToWrite 12 = .ok (.aload_n 0, 1) := by decide +kernel
theorem dX8_notToWrite_13 : decode cX8_notToWrite 13 = .ok (.aload_n 0, 1) := by decide +kernel
theorem dX8_notToWrite_14 : decode cX8_notToWrite 14 = .ok (.iload_n 1, 1) := by decide +kernel
theorem dX8_notToWrite_15 : decode cX8_notToWrite 15 = .ok (.invokevirtual 58, 3) := by decide +kernel
theorem dX8_notToWrite_18 : decode cX8_notToWrite 18 = .ok (.invokevirtual 78, 3) := by decide +kernel
theorem dX8_notToWrite_21 : decode cX8_notToWrite 21 = .ok (.ifCond .eq 7, 3) := by decide +kernel
theorem dX8_notToWrite_24 : decode cX8_notToWrite 24 = .ok (.iconst 4, 1) := by decide +kernel
theorem dX8_notToWrite_25 : decode cX8_notToWrite 25 = .ok (.goto 17, 3) := by decide +kernel
theorem dX8_notToWrite_28 : decode cX8_notToWrite 28 = .ok (.aload_n 0, 1) := by decide +kernel
theorem dX8_notToWrite_29 : decode cX8_notToWrite 29 = .ok (.iload_n 1, 1) := by decide +kernel
theorem dX8_notToWrite_30 : decode cX8_notToWrite 30 = .ok (.iload_n 2, 1) := by decide +kernel
theorem dX8_notToWrite_31 : decode cX8_notToWrite 31 = .ok (.invokevirtual 74, 3) := by decide +kernel
theorem dX8_notToWrite_34 : decode cX8_notToWrite 34 = .ok (.ifCond .eq 7, 3) := by decide +kernel
theorem dX8_notToWrite_37 : decode cX8_notToWrite 37 = .ok (.iconst 0, 1) := by decide +kernel
theorem dX8_notToWrite_38 : decode cX8_notToWrite 38 = .ok (.goto 4, 3) := by decide +kernel
theorem dX8_notToWrite_41 : decode cX8_notToWrite 41 = .ok (.iconst 5, 1) := by decide +kernel
theorem dX8_notToWrite_42 : decode cX8_notToWrite 42 = .ok (.ireturn, 1) := by decide +kernel
theorem dX8_cuts_0 : decode cX8_cuts 0 = .ok (.aload_n 0, 1) := by decide +kernel
theorem dX8_cuts_1 : decode cX8_cuts 1 = .ok (.getfield 7, 3) := by decide +kernel
theorem dX8_cuts_4 : decode cX8_cuts 4 = .ok (.iload_n 1, 1) := by decide +kernel
theorem dX8_cuts_5 : decode cX8_cuts 5 = .ok (.iload_n 2, 1) := by decide +kernel
theorem dX8_cuts_6 : decode cX8_cuts 6 = .ok (.invokestatic 81, 3) := by decide +kernel
theorem dX8_cuts_9 : decode cX8_cuts 9 = .ok (.iaload, 1) := by decide +kernel
theorem dX8_cuts_10 : decode cX8_cuts 10 = .ok (.sipush 999, 3) := by decide +kernel
theorem dX8_cuts_13 : decode cX8_cuts 13 = .ok (.if_icmp .ne 16, 3) := by decide +kernel
theorem dX8_cuts_16 : decode cX8_cuts 16 = .ok (.aload_n 0, 1) := by decide +kernel
theorem dX8_cuts_17 : decode cX8_cuts 17 = .ok (.getfield 7, 3) := by decide +kernel
theorem dX8_cuts_20 : decode cX8_cuts 20 = .ok (.iload_n 1, 1) := by decide +kernel
theorem dX8_cuts_21 : decode cX8_cuts 21 = .ok (.iload_n 2, 1) := by decide +kernel
theorem dX8_cuts_22 : decode cX8_cuts 22 = .ok (.iconst 1, 1) := by decide +kernel
theorem dX8_cuts_23 : decode cX8_cuts 23 = .ok (.isub, 1) := by decide +kernel
theorem dX8_cuts_24 : decode cX8_cuts 24 = .ok (.invokestatic 81, 3) := by decide +kernel
theorem dX8_cuts_27 : decode cX8_cuts 27 = .ok (.iconst (-1), 1) := by decide +kernel
theorem dX8_cuts_28 : decode cX8_cuts 28 = .ok (.iastore, 1) := by decide +kernel
theorem dX8_cuts_29 : decode cX8_cuts 29 = .ok (.aload_n 0, 1) := by decide +kernel
theorem dX8_cuts_30 : decode cX8_cuts 30 = .ok (.getfield 7, 3) := by decide +kernel
theorem dX8_cuts_33 : decode cX8_cuts 33 = .ok (.iload_n 1, 1) := by decide +kernel
theorem dX8_cuts_34 : decode cX8_cuts 34 = .ok (.iload_n 2, 1) := by decide +kernel
theorem dX8_cuts_35 : decode cX8_cuts 35 = .ok (.iload_n 3, 1) := by decide +kernel
theorem dX8_cuts_36 : decode cX8_cuts 36 = .ok (.iadd, 1) := by decide +kernel
theorem dX8_cuts_37 : decode cX8_cuts 37 = .ok (.iconst 1, 1) := by decide +kernel
theorem dX8_cuts_38 : decode cX8_cuts 38 = .ok (.isub, 1) := by decide +kernel
theorem dX8_cuts_39 : decode cX8_cuts 39 = .ok (.invokestatic 81, 3) := by decide +kernel
theorem dX8_cuts_42 : decode cX8_cuts 42 = .ok (.iaload, 1) := by decide +kernel
theorem dX8_cuts_43 : decode cX8_cuts 43 = .ok (.sipush 1000, 3) := by decide +kernel
theorem dX8_cuts_46 : decode cX8_cuts 46 = .ok (.if_icmp .lt 16, 3) := by decide +kernel
theorem dX8_cuts_49 : decode cX8_cuts 49 = .ok (.aload_n 0, 1) := by decide +kernel
theorem dX8_cuts_50 : decode cX8_cuts 50 = .ok (.getfield 7, 3) := by decide +kernel
theorem dX8_cuts_53 : decode cX8_cuts 53 = .ok (.iload_n 1, 1) := by decide +kernel
theorem dX8_cuts_54 : decode cX8_cuts 54 = .ok (.iload_n 2, 1) := by decide +kernel
theorem dX8_cuts_55 : decode cX8_cuts 55 = .ok (.iload_n 3, 1) := by decide +kernel
theorem dX8_cuts_56 : decode cX8_cuts 56 = .ok (.iadd, 1) := by decide +kernel
theorem dX8_cuts_57 : decode cX8_cuts 57 = .ok (.invokestatic 81, 3) := by decide +kernel
theorem dX8_cuts_60 : decode cX8_cuts 60 = .ok (.iconst (-1), 1) := by decide +kernel
theorem dX8_cuts_61 : decode cX8_cuts 61 = .ok (.iastore, 1) := by decide +kernel
theorem dX8_cuts_62 : decode cX8_cuts 62 = .ok (.return_, 1) := by decide +kernel
theorem dX8_makes_0 : decode cX8_makes 0 = .ok (.iload_n 1, 1) := by decide +kernel
theorem dX8_makes_1 : decode cX8_makes 1 = .ok (.invokestatic 85, 3) := by decide +kernel
theorem dX8_makes_4 : decode cX8_makes 4 = .ok (.ifCond .eq 13, 3) := by decide +kernel
theorem dX8_makes_7 : decode cX8_makes 7 = .ok (.iload_n 2, 1) := by decide +kernel
theorem dX8_makes_8 : decode cX8_makes 8 = .ok (.iconst 1, 1) := by decide +kernel
theorem dX8_makes_9 : decode cX8_makes 9 = .ok (.bipush 12, 2) := by decide +kernel
theorem dX8_makes_11 : decode cX8_makes 11 = .ok (.invokestatic 51, 3) := by decide +kernel
theorem dX8_makes_14 : decode cX8_makes 14 = .ok (.ifCond .ne 6, 3) := by decide +kernel
theorem dX8_makes_17 : decode cX8_makes 17 = .ok (.bipush (-2), 2) := by decide +kernel
theorem dX8_makes_19 : decode cX8_makes 19 = .ok (.ireturn, 1) := by decide +kernel
theorem dX8_makes_20 : decode cX8_makes 20 = .ok (.aload_n 0, 1) := by decide +kernel
theorem dX8_makes_21 : decode cX8_makes 21 = .ok (.getfield 7, 3) := by decide +kernel
theorem dX8_makes_24 : decode cX8_makes 24 = .ok (.iconst 0, 1) := by decide +kernel
theorem dX8_makes_25 : decode cX8_makes 25 = .ok (.iaload, 1) := by decide +kernel
theorem dX8_makes_26 : decode cX8_makes 26 = .ok (.bipush 10, 2) := by decide +kernel
theorem dX8_makes_28 : decode cX8_makes 28 = .ok (.if_icmp .ne 6, 3) := by decide +kernel
theorem dX8_makes_31 : decode cX8_makes 31 = .ok (.bipush (-4), 2) := by decide +kernel
theorem dX8_makes_33 : decode cX8_makes 33 = .ok (.ireturn, 1) := by decide +kernel
theorem dX8_makes_34 : decode cX8_makes 34 = .ok (.aload_n 0, 1) := by decide +kernel
theorem dX8_makes_35 : decode cX8_makes 35 = .ok (.getfield 7, 3) := by decide +kernel
theorem dX8_makes_38 : decode cX8_makes 38 = .ok (.iconst 0, 1) := by decide +kernel
theorem dX8_makes_39 : decode cX8_makes 39 = .ok (.iaload, 1) := by decide +kernel
theorem dX8_makes_40 : decode cX8_makes 40 = .ok (.istore_n 3, 1) := by decide +kernel
theorem dX8_makes_41 : decode cX8_makes 41 = .ok (.iload_n 3, 1) := by decide +kernel
theorem dX8_makes_42 : decode cX8_makes 42 = .ok (.invokestatic 47, 3) := by decide +kernel
theorem dX8_makes_45 : decode cX8_makes 45 = .ok (.istore 4, 2) := by decide +kernel
theorem dX8_makes_47 : decode cX8_makes 47 = .ok (.aload_n 0, 1) := by decide +kernel
theorem dX8_makes_48 : decode cX8_makes 48 = .ok (.getfield 7, 3) := by decide +kernel
theorem dX8_makes_51 : decode cX8_makes 51 = .ok (.iload 4, 2) := by decide +kernel
theorem dX8_makes_53 : decode cX8_makes 53 = .ok (.iload_n 2, 1) := by decide +kernel
theorem dX8_makes_54 : decode cX8_makes 54 = .ok (.iastore, 1) := by decide +kernel
theorem dX8_makes_55 : decode cX8_makes 55 = .ok (.aload_n 0, 1) := by decide +kernel
theorem dX8_makes_56 : decode cX8_makes 56 = .ok (.getfield 7, 3) := by decide +kernel
theorem dX8_makes_59 : decode cX8_makes 59 = .ok (.iload 4, 2) := by decide +kernel
theorem dX8_makes_61 : decode cX8_makes 61 = .ok (.iconst 1, 1) := by decide +kernel
theorem dX8_makes_62 : decode cX8_makes 62 = .ok (.iadd, 1) := by decide +kernel
theorem dX8_makes_63 : decode cX8_makes 63 = .ok (.iconst 1, 1) := by decide +kernel
theorem dX8_makes_64 : decode cX8_makes 64 = .ok (.iastore, 1) := by decide +kernel
theorem dX8_makes_65 : decode cX8_makes 65 = .ok (.aload_n 0, 1) := by decide +kernel
theorem dX8_makes_66 : decode cX8_makes 66 = .ok (.getfield 7, 3) := by decide +kernel
theorem dX8_makes_69 : decode cX8_makes 69 = .ok (.iload 4, 2) := by decide +kernel
theorem dX8_makes_71 : decode cX8_makes 71 = .ok (.iconst 2, 1) := by decide +kernel
theorem dX8_makes_72 : decode cX8_makes 72 = .ok (.iadd, 1) := by decide +kernel
theorem dX8_makes_73 : decode cX8_makes 73 = .ok (.iconst 0, 1) := by decide +kernel
theorem dX8_makes_74 : decode cX8_makes 74 = .ok (.iastore, 1) := by decide +kernel
theorem dX8_makes_75 : decode cX8_makes 75 = .ok (.iconst 0, 1) := by decide +kernel
theorem dX8_makes_76 : decode cX8_makes 76 = .ok (.istore 5, 2) := by decide +kernel
theorem dX8_makes_78 : decode cX8_makes 78 = .ok (.iload 5, 2) := by decide +kernel
theorem dX8_makes_80 : decode cX8_makes 80 = .ok (.bipush 12, 2) := by decide +kernel
theorem dX8_makes_82 : decode cX8_makes 82 = .ok (.if_icmp .ge 32, 3) := by decide +kernel
theorem dX8_makes_85 : decode cX8_makes 85 = .ok (.aload_n 0, 1) := by decide +kernel
theorem dX8_makes_86 : decode cX8_makes 86 = .ok (.getfield 7, 3) := by decide +kernel
theorem dX8_makes_89 : decode cX8_makes 89 = .ok (.iload 4, 2) := by decide +kernel
theorem dX8_makes_91 : decode cX8_makes 91 = .ok (.iconst 3, 1) := by decide +kernel
theorem dX8_makes_92 : decode cX8_makes 92 = .ok (.iadd, 1) := by decide +kernel
theorem dX8_makes_93 : decode cX8_makes 93 = .ok (.iload 5, 2) := by decide +kernel
theorem dX8_makes_95 : decode cX8_makes 95 = .ok (.iadd, 1) := by decide +kernel
theorem dX8_makes_96 : decode cX8_makes 96 = .ok (.iload 5, 2) := by decide +kernel
theorem dX8_makes_98 : decode cX8_makes 98 = .ok (.iload_n 2, 1) := by decide +kernel
theorem dX8_makes_99 : decode cX8_makes 99 = .ok (.if_icmp .ge 7, 3) := by decide +kernel
theorem dX8_makes_102 : decode cX8_makes 102 = .ok (.iconst (-1), 1) := by decide +kernel
theorem dX8_makes_103 : decode cX8_makes 103 = .ok (.goto 4, 3) := by decide +kernel
theorem dX8_makes_106 : decode cX8_makes 106 = .ok (.iconst 0, 1) := by decide +kernel
theorem dX8_makes_107 : decode cX8_makes 107 = .ok (.iastore, 1) := by decide +kernel
theorem dX8_makes_108 : decode cX8_makes 108 = .ok (.iinc 5 1, 3) := by decide +kernel
theorem dX8_makes_111 : decode cX8_makes 111 = .ok (.goto (-33), 3) := by decide +kernel
theorem dX8_makes_114 : decode cX8_makes 114 = .ok (.aload_n 0, 1) := by decide +kernel
theorem dX8_makes_115 : decode cX8_makes 115 = .ok (.getfield 7, 3) := by decide +kernel
theorem dX8_makes_118 : decode cX8_makes 118 = .ok (.iconst 0, 1) := by decide +kernel
theorem dX8_makes_119 : decode cX8_makes 119 = .ok (.dup2, 1) := by decide +kernel
theorem dX8_makes_120 : decode cX8_makes 120 = .ok (.iaload, 1) := by decide +kernel
theorem dX8_makes_121 : decode cX8_makes 121 = .ok (.iconst 1, 1) := by decide +kernel
theorem dX8_makes_122 : decode cX8_makes 122 = .ok (.iadd, 1) := by decide +kernel
theorem dX8_makes_123 : decode cX8_makes 123 = .ok (.iastore, 1) := by decide +kernel
theorem dX8_makes_124 : decode cX8_makes 124 = .ok (.aload_n 0, 1) := by decide +kernel
theorem dX8_makes_125 : decode cX8_makes 125 = .ok (.iload_n 1, 1) := by decide +kernel
theorem dX8_makes_126 : decode cX8_makes 126 = .ok (.iconst 2, 1) := by decide +kernel
theorem dX8_makes_127 : decode cX8_makes 127 = .ok (.iload_n 3, 1) := by decide +kernel
theorem dX8_makes_128 : decode cX8_makes 128 = .ok (.iconst 0, 1) := by decide +kernel
theorem dX8_makes_129 : decode cX8_makes 129 = .ok (.invokevirtual 88, 3) := by decide +kernel
theorem dX8_makes_132 : decode cX8_makes 132 = .ok (.iconst 2, 1) := by decide +kernel
theorem dX8_makes_133 : decode cX8_makes 133 = .ok (.if_icmp .ne 7, 3) := by decide +kernel
theorem dX8_makes_136 : decode cX8_makes 136 = .ok (.iload_n 3, 1) := by decide +kernel
theorem dX8_makes_137 : decode cX8_makes 137 = .ok (.goto 4, 3) := by decide +kernel
theorem dX8_makes_140 : decode cX8_makes 140 = .ok (.iconst (-1), 1) := by decide +kernel
theorem dX8_makes_141 : decode cX8_makes 141 = .ok (.ireturn, 1) := by decide +kernel
theorem dX8_ends_0 : decode cX8_ends 0 = .ok (.iload_n 1, 1) := by decide +kernel
theorem dX8_ends_1 : decode cX8_ends 1 = .ok (.invokestatic 85, 3) := by decide +kernel
theorem dX8_ends_4 : decode cX8_ends 4 = .ok (.ifCond .ne 6, 3) := by decide +kernel
theorem dX8_ends_7 : decode cX8_ends 7 = .ok (.bipush (-2), 2) := by decide +kernel
theorem dX8_ends_9 : decode cX8_ends 9 = .ok (.ireturn, 1) := by decide +kernel
theorem dX8_ends_10 : decode cX8_ends 10 = .ok (.aload_n 0, 1) := by decide +kernel
theorem dX8_ends_11 : decode cX8_ends 11 = .ok (.iload_n 1, 1) := by decide +kernel
theorem dX8_ends_12 : decode cX8_ends 12 = .ok (.invokevirtual 71, 3) := by decide +kernel
theorem dX8_ends_15 : decode cX8_ends 15 = .ok (.istore_n 2, 1) := by decide +kernel
theorem dX8_ends_16 : decode cX8_ends 16 = .ok (.iload_n 2, 1) := by decide +kernel
theorem dX8_ends_17 : decode cX8_ends 17 = .ok (.ifCond .ne 34, 3) := by decide +kernel
theorem dX8_ends_20 : decode cX8_ends 20 = .ok (.aload_n 0, 1) := by decide +kernel
theorem dX8_ends_21 : decode cX8_ends 21 = .ok (.iload_n 1, 1) := by decide +kernel
theorem dX8_ends_22 : decode cX8_ends 22 = .ok (.invokevirtual 65, 3) := by decide +kernel
theorem dX8_ends_25 : decode cX8_ends 25 = .ok (.ifCond .eq 8, 3) := by decide +kernel
theorem dX8_ends_28 : decode cX8_ends 28 = .ok (.bipush 9, 2) := by decide +kernel
theorem dX8_ends_30 : decode cX8_ends 30 = .ok (.goto 20, 3) := by decide +kernel
theorem dX8_ends_33 : decode cX8_ends 33 = .ok (.aload_n 0, 1) := by decide +kernel
theorem dX8_ends_34 : decode cX8_ends 34 = .ok (.aload_n 0, 1) := by decide +kernel
theorem dX8_ends_35 : decode cX8_ends 35 = .ok (.iload_n 1, 1) := by decide +kernel
theorem dX8_ends_36 : decode cX8_ends 36 = .ok (.invokevirtual 58, 3) := by decide +kernel
theorem dX8_ends_39 : decode cX8_ends 39 = .ok (.invokevirtual 78, 3) := by decide +kernel
theorem dX8_ends_42 : decode cX8_ends 42 = .ok (.ifCond .eq 7, 3) := by decide +kernel
theorem dX8_ends_45 : decode cX8_ends 45 = .ok (.iconst 4, 1) := by decide +kernel
theorem dX8_ends_46 : decode cX8_ends 46 = .ok (.goto 4, 3) := by decide +kernel
theorem dX8_ends_49 : decode cX8_ends 49 = .ok (.iconst 0, 1) := by decide +kernel
theorem dX8_ends_50 : decode cX8_ends 50 = .ok (.istore_n 2, 1) := by decide +kernel
theorem dX8_ends_51 : decode cX8_ends 51 = .ok (.iload_n 2, 1) := by decide +kernel
theorem dX8_ends_52 : decode cX8_ends 52 = .ok (.ifCond .eq 8, 3) := by decide +kernel
theorem dX8_ends_55 : decode cX8_ends 55 = .ok (.iload_n 2, 1) := by decide +kernel
theorem dX8_ends_56 : decode cX8_ends 56 = .ok (.invokestatic 92, 3) := by decide +kernel
theorem dX8_ends_59 : decode cX8_ends 59 = .ok (.ireturn, 1) := by decide +kernel
theorem dX8_ends_60 : decode cX8_ends 60 = .ok (.aload_n 0, 1) := by decide +kernel
theorem dX8_ends_61 : decode cX8_ends 61 = .ok (.getfield 7, 3) := by decide +kernel
theorem dX8_ends_64 : decode cX8_ends 64 = .ok (.aload_n 0, 1) := by decide +kernel
theorem dX8_ends_65 : decode cX8_ends 65 = .ok (.iload_n 1, 1) := by decide +kernel
theorem dX8_ends_66 : decode cX8_ends 66 = .ok (.invokevirtual 58, 3) := by decide +kernel
theorem dX8_ends_69 : decode cX8_ends 69 = .ok (.invokestatic 47, 3) := by decide +kernel
theorem dX8_ends_72 : decode cX8_ends 72 = .ok (.iconst 1, 1) := by decide +kernel
theorem dX8_ends_73 : decode cX8_ends 73 = .ok (.iadd, 1) := by decide +kernel
theorem dX8_ends_74 : decode cX8_ends 74 = .ok (.iconst 0, 1) := by decide +kernel
theorem dX8_ends_75 : decode cX8_ends 75 = .ok (.iastore, 1) := by decide +kernel
theorem dX8_ends_76 : decode cX8_ends 76 = .ok (.aload_n 0, 1) := by decide +kernel
theorem dX8_ends_77 : decode cX8_ends 77 = .ok (.iload_n 1, 1) := by decide +kernel
theorem dX8_ends_78 : decode cX8_ends 78 = .ok (.invokevirtual 58, 3) := by decide +kernel
theorem dX8_ends_81 : decode cX8_ends 81 = .ok (.ireturn, 1) := by decide +kernel
theorem dX8_setsTo_0 : decode cX8_setsTo 0 = .ok (.iload_n 1, 1) := by decide +kernel
theorem dX8_setsTo_1 : decode cX8_setsTo 1 = .ok (.invokestatic 85, 3) := by decide +kernel
theorem dX8_setsTo_4 : decode cX8_setsTo 4 = .ok (.ifCond .eq 26, 3) := by decide +kernel
theorem dX8_setsTo_7 : decode cX8_setsTo 7 = .ok (.iload_n 2, 1) := by decide +kernel
theorem dX8_setsTo_8 : decode cX8_setsTo 8 = .ok (.iconst 0, 1) := by decide +kernel
theorem dX8_setsTo_9 : decode cX8_setsTo 9 = .ok (.ldc 95, 2) := by decide +kernel
theorem dX8_setsTo_11 : decode cX8_setsTo 11 = .ok (.invokestatic 51, 3) := by decide +kernel
theorem dX8_setsTo_14 : decode cX8_setsTo 14 = .ok (.ifCond .eq 16, 3) := by decide +kernel
theorem dX8_setsTo_17 : decode cX8_setsTo 17 = .ok (.aload_n 0, 1) := by decide +kernel
theorem dX8_setsTo_18 : decode cX8_setsTo 18 = .ok (.iload_n 1, 1) := by decide +kernel
theorem dX8_setsTo_19 : decode cX8_setsTo 19 = .ok (.iconst 1, 1) := by decide +kernel
theorem dX8_setsTo_20 : decode cX8_setsTo 20 = .ok (.iload_n 2, 1) := by decide +kernel
theorem dX8_setsTo_21 : decode cX8_setsTo 21 = .ok (.iconst 0, 1) := by decide +kernel
theorem dX8_setsTo_22 : decode cX8_setsTo 22 = .ok (.invokevirtual 88, 3) := by decide +kernel
theorem dX8_setsTo_25 : decode cX8_setsTo 25 = .ok (.iload_n 2, 1) := by decide +kernel
theorem dX8_setsTo_26 : decode cX8_setsTo 26 = .ok (.imul, 1) := by decide +kernel
theorem dX8_setsTo_27 : decode cX8_setsTo 27 = .ok (.goto 5, 3) := by decide +kernel
theorem dX8_setsTo_30 : decode cX8_setsTo 30 = .ok (.bipush (-2), 2) := by decide +kernel
theorem dX8_setsTo_32 : decode cX8_setsTo 32 = .ok (.ireturn, 1) := by decide +kernel
theorem dX8_copiesTo_0 : decode cX8_copiesTo 0 = .ok (.iload_n 1, 1) := by decide +kernel
theorem dX8_copiesTo_1 : decode cX8_copiesTo 1 = .ok (.invokestatic 85, 3) := by decide +kernel
theorem dX8_copiesTo_4 : decode cX8_copiesTo 4 = .ok (.ifCond .eq 33, 3) := by decide +kernel
theorem dX8_copiesTo_7 : decode cX8_copiesTo 7 = .ok (.iload_n 2, 1) := by decide +kernel
theorem dX8_copiesTo_8 : decode cX8_copiesTo 8 = .ok (.invokestatic 85, 3) := by decide +kernel
theorem dX8_copiesTo_11 : decode cX8_copiesTo 11 = .ok (.ifCond .eq 26, 3) := by decide +kernel
theorem dX8_copiesTo_14 : decode cX8_copiesTo 14 = .ok (.aload_n 0, 1) := by decide +kernel
theorem dX8_copiesTo_15 : decode cX8_copiesTo 15 = .ok (.iload_n 1, 1) := by decide +kernel
theorem dX8_copiesTo_16 : decode cX8_copiesTo 16 = .ok (.aload_n 0, 1) := by decide +kernel
theorem dX8_copiesTo_17 : decode cX8_copiesTo 17 = .ok (.iload_n 2, 1) := by decide +kernel
theorem dX8_copiesTo_18 : decode cX8_copiesTo 18 = .ok (.invokevirtual 55, 3) := by decide +kernel
theorem dX8_copiesTo_21 : decode cX8_copiesTo 21 = .ok (.aload_n 0, 1) := by decide +kernel
theorem dX8_copiesTo_22 : decode cX8_copiesTo 22 = .ok (.iload_n 2, 1) := by decide +kernel
theorem dX8_copiesTo_23 : decode cX8_copiesTo 23 = .ok (.invokevirtual 58, 3) := by decide +kernel
theorem dX8_copiesTo_26 : decode cX8_copiesTo 26 = .ok (.aload_n 0, 1) := by decide +kernel
theorem dX8_copiesTo_27 : decode cX8_copiesTo 27 = .ok (.iload_n 2, 1) := by decide +kernel
theorem dX8_copiesTo_28 : decode cX8_copiesTo 28 = .ok (.invokevirtual 65, 3) := by decide +kernel
theorem dX8_copiesTo_31 : decode cX8_copiesTo 31 = .ok (.invokevirtual 88, 3) := by decide +kernel
theorem dX8_copiesTo_34 : decode cX8_copiesTo 34 = .ok (.goto 5, 3) := by decide +kernel
theorem dX8_copiesTo_37 : decode cX8_copiesTo 37 = .ok (.bipush (-2), 2) := by decide +kernel
theorem dX8_copiesTo_39 : decode cX8_copiesTo 39 = .ok (.ireturn, 1) := by decide +kernel
theorem dX8_movesBy_0 : decode cX8_movesBy 0 = .ok (.iload_n 1, 1) := by decide +kernel
theorem dX8_movesBy_1 : decode cX8_movesBy 1 = .ok (.invokestatic 85, 3) := by decide +kernel
theorem dX8_movesBy_4 : decode cX8_movesBy 4 = .ok (.ifCond .eq 14, 3) := by decide +kernel
theorem dX8_movesBy_7 : decode cX8_movesBy 7 = .ok (.iload_n 2, 1) := by decide +kernel
theorem dX8_movesBy_8 : decode cX8_movesBy 8 = .ok (.bipush (-12), 2) := by decide +kernel
theorem dX8_movesBy_10 : decode cX8_movesBy 10 = .ok (.bipush 12, 2) := by decide +kernel
theorem dX8_movesBy_12 : decode cX8_movesBy 12 = .ok (.invokestatic 51, 3) := by decide +kernel
theorem dX8_movesBy_15 : decode cX8_movesBy 15 = .ok (.ifCond .ne 6, 3) := by decide +kernel
theorem dX8_movesBy_18 : decode cX8_movesBy 18 = .ok (.bipush (-2), 2) := by decide +kernel
theorem dX8_movesBy_20 : decode cX8_movesBy 20 = .ok (.ireturn, 1) := by decide +kernel
theorem dX8_movesBy_21 : decode cX8_movesBy 21 = .ok (.aload_n 0, 1) := by decide +kernel
theorem dX8_movesBy_22 : decode cX8_movesBy 22 = .ok (.iload_n 1, 1) := by decide +kernel
theorem dX8_movesBy_23 : decode cX8_movesBy 23 = .ok (.invokevirtual 55, 3) := by decide +kernel
theorem dX8_movesBy_26 : decode cX8_movesBy 26 = .ok (.ifCond .ne 8, 3) := by decide +kernel
theorem dX8_movesBy_29 : decode cX8_movesBy 29 = .ok (.iconst 1, 1) := by decide +kernel
theorem dX8_movesBy_30 : decode cX8_movesBy 30 = .ok (.invokestatic 92, 3) := by decide +kernel
theorem dX8_movesBy_33 : decode cX8_movesBy 33 = .ok (.ireturn, 1) := by decide +kernel
theorem dX8_movesBy_34 : decode cX8_movesBy 34 = .ok (.aload_n 0, 1) := by decide +kernel
theorem dX8_movesBy_35 : decode cX8_movesBy 35 = .ok (.iload_n 1, 1) := by decide +kernel
theorem dX8_movesBy_36 : decode cX8_movesBy 36 = .ok (.invokevirtual 58, 3) := by decide +kernel
theorem dX8_movesBy_39 : decode cX8_movesBy 39 = .ok (.istore_n 3, 1) := by decide +kernel
theorem dX8_movesBy_40 : decode cX8_movesBy 40 = .ok (.aload_n 0, 1) := by decide +kernel
theorem dX8_movesBy_41 : decode cX8_movesBy 41 = .ok (.iload_n 1, 1) := by decide +kernel
theorem dX8_movesBy_42 : decode cX8_movesBy 42 = .ok (.invokevirtual 55, 3) := by decide +kernel
theorem dX8_movesBy_45 : decode cX8_movesBy 45 = .ok (.iconst 1, 1) := by decide +kernel
theorem dX8_movesBy_46 : decode cX8_movesBy 46 = .ok (.if_icmp .ne 27, 3) := by decide +kernel
theorem dX8_movesBy_49 : decode cX8_movesBy 49 = .ok (.iload_n 3, 1) := by decide +kernel
theorem dX8_movesBy_50 : decode cX8_movesBy 50 = .ok (.iload_n 2, 1) := by decide +kernel
theorem dX8_movesBy_51 : decode cX8_movesBy 51 = .ok (.iadd, 1) := by decide +kernel
theorem dX8_movesBy_52 : decode cX8_movesBy 52 = .ok (.ldc 96, 2) := by decide +kernel
theorem dX8_movesBy_54 : decode cX8_movesBy 54 = .ok (.iadd, 1) := by decide +kernel
theorem dX8_movesBy_55 : decode cX8_movesBy 55 = .ok (.ldc 96, 2) := by decide +kernel
theorem dX8_movesBy_57 : decode cX8_movesBy 57 = .ok (.irem, 1) := by decide +kernel
theorem dX8_movesBy_58 : decode cX8_movesBy 58 = .ok (.istore 4, 2) := by decide +kernel
theorem dX8_movesBy_60 : decode cX8_movesBy 60 = .ok (.aload_n 0, 1) := by decide +kernel
theorem dX8_movesBy_61 : decode cX8_movesBy 61 = .ok (.iload_n 1, 1) := by decide +kernel
theorem dX8_movesBy_62 : decode cX8_movesBy 62 = .ok (.iconst 1, 1) := by decide +kernel
theorem dX8_movesBy_63 : decode cX8_movesBy 63 = .ok (.iload 4, 2) := by decide +kernel
theorem dX8_movesBy_65 : decode cX8_movesBy 65 = .ok (.iconst 0, 1) := by decide +kernel
theorem dX8_movesBy_66 : decode cX8_movesBy 66 = .ok (.invokevirtual 88, 3) := by decide +kernel
theorem dX8_movesBy_69 : decode cX8_movesBy 69 = .ok (.iload 4, 2) := by decide +kernel
theorem dX8_movesBy_71 : decode cX8_movesBy 71 = .ok (.imul, 1) := by decide +kernel
theorem dX8_movesBy_72 : decode cX8_movesBy 72 = .ok (.ireturn, 1) := by decide +kernel
theorem dX8_movesBy_73 : decode cX8_movesBy 73 = .ok (.aload_n 0, 1) := by decide +kernel
theorem dX8_movesBy_74 : decode cX8_movesBy 74 = .ok (.iload_n 1, 1) := by decide +kernel
theorem dX8_movesBy_75 : decode cX8_movesBy 75 = .ok (.invokevirtual 65, 3) := by decide +kernel
theorem dX8_movesBy_78 : decode cX8_movesBy 78 = .ok (.iload_n 2, 1) := by decide +kernel
theorem dX8_movesBy_79 : decode cX8_movesBy 79 = .ok (.iadd, 1) := by decide +kernel
theorem dX8_movesBy_80 : decode cX8_movesBy 80 = .ok (.istore 4, 2) := by decide +kernel
theorem dX8_movesBy_82 : decode cX8_movesBy 82 = .ok (.aload_n 0, 1) := by decide +kernel
theorem dX8_movesBy_83 : decode cX8_movesBy 83 = .ok (.iload_n 3, 1) := by decide +kernel
theorem dX8_movesBy_84 : decode cX8_movesBy 84 = .ok (.invokevirtual 61, 3) := by decide +kernel
theorem dX8_movesBy_87 : decode cX8_movesBy 87 = .ok (.ifCond .eq 17, 3) := by decide +kernel
theorem dX8_movesBy_90 : decode cX8_movesBy 90 = .ok (.iload 4, 2) := by decide +kernel
theorem dX8_movesBy_92 : decode cX8_movesBy 92 = .ok (.iconst 0, 1) := by decide +kernel
theorem dX8_movesBy_93 : decode cX8_movesBy 93 = .ok (.aload_n 0, 1) := by decide +kernel
theorem dX8_movesBy_94 : decode cX8_movesBy 94 = .ok (.iload_n 3, 1) := by decide +kernel
theorem dX8_movesBy_95 : decode cX8_movesBy 95 = .ok (.invokevirtual 68, 3) := by decide +kernel
theorem dX8_movesBy_98 : decode cX8_movesBy 98 = .ok (.invokestatic 51, 3) := by decide +kernel
theorem dX8_movesBy_101 : decode cX8_movesBy 101 = .ok (.ifCond .ne 20, 3) := by decide +kernel
theorem dX8_movesBy_104 : decode cX8_movesBy 104 = .ok (.aload_n 0, 1) := by decide +kernel
theorem dX8_movesBy_105 : decode cX8_movesBy 105 = .ok (.iload_n 3, 1) := by decide +kernel
theorem dX8_movesBy_106 : decode cX8_movesBy 106 = .ok (.invokevirtual 61, 3) := by decide +kernel
theorem dX8_movesBy_109 : decode cX8_movesBy 109 = .ok (.ifCond .eq 7, 3) := by decide +kernel
theorem dX8_movesBy_112 : decode cX8_movesBy 112 = .ok (.iconst 5, 1) := by decide +kernel
theorem dX8_movesBy_113 : decode cX8_movesBy 113 = .ok (.goto 4, 3) := by decide +kernel
theorem dX8_movesBy_116 : decode cX8_movesBy 116 = .ok (.iconst 3, 1) := by decide +kernel
theorem dX8_movesBy_117 : decode cX8_movesBy 117 = .ok (.invokestatic 92, 3) := by decide +kernel
theorem dX8_movesBy_120 : decode cX8_movesBy 120 = .ok (.ireturn, 1) := by decide +kernel
theorem dX8_movesBy_121 : decode cX8_movesBy 121 = .ok (.aload_n 0, 1) := by decide +kernel
theorem dX8_movesBy_122 : decode cX8_movesBy 122 = .ok (.iload_n 1, 1) := by decide +kernel
theorem dX8_movesBy_123 : decode cX8_movesBy 123 = .ok (.iconst 2, 1) := by decide +kernel
theorem dX8_movesBy_124 : decode cX8_movesBy 124 = .ok (.iload_n 3, 1) := by decide +kernel
theorem dX8_movesBy_125 : decode cX8_movesBy 125 = .ok (.iload 4, 2) := by decide +kernel
theorem dX8_movesBy_127 : decode cX8_movesBy 127 = .ok (.invokevirtual 88, 3) := by decide +kernel
theorem dX8_movesBy_130 : decode cX8_movesBy 130 = .ok (.iconst 2, 1) := by decide +kernel
theorem dX8_movesBy_131 : decode cX8_movesBy 131 = .ok (.if_icmp .ne 8, 3) := by decide +kernel
theorem dX8_movesBy_134 : decode cX8_movesBy 134 = .ok (.iload 4, 2) := by decide +kernel
theorem dX8_movesBy_136 : decode cX8_movesBy 136 = .ok (.goto 4, 3) := by decide +kernel
theorem dX8_movesBy_139 : decode cX8_movesBy 139 = .ok (.iconst (-1), 1) := by decide +kernel
theorem dX8_movesBy_140 : decode cX8_movesBy 140 = .ok (.ireturn, 1) := by decide +kernel
theorem dX8_storesAt_0 : decode cX8_storesAt 0 = .ok (.iload_n 1, 1) := by decide +kernel
theorem dX8_storesAt_1 : decode cX8_storesAt 1 = .ok (.invokestatic 85, 3) := by decide +kernel
theorem dX8_storesAt_4 : decode cX8_storesAt 4 = .ok (.ifCond .eq 19, 3) := by decide +kernel
theorem dX8_storesAt_7 : decode cX8_storesAt 7 = .ok (.iload_n 2, 1) := by decide +kernel
theorem dX8_storesAt_8 : decode cX8_storesAt 8 = .ok (.invokestatic 85, 3) := by decide +kernel
theorem dX8_storesAt_11 : decode cX8_storesAt 11 = .ok (.ifCond .eq 12, 3) := by decide +kernel
theorem dX8_storesAt_14 : decode cX8_storesAt 14 = .ok (.iload_n 3, 1) := by decide +kernel
theorem dX8_storesAt_15 : decode cX8_storesAt 15 = .ok (.iconst 1, 1) := by decide +kernel
theorem dX8_storesAt_16 : decode cX8_storesAt 16 = .ok (.iconst 2, 1) := by decide +kernel
theorem dX8_storesAt_17 : decode cX8_storesAt 17 = .ok (.invokestatic 51, 3) := by decide +kernel
theorem dX8_storesAt_20 : decode cX8_storesAt 20 = .ok (.ifCond .ne 6, 3) := by decide +kernel
theorem dX8_storesAt_23 : decode cX8_storesAt 23 = .ok (.bipush (-2), 2) := by decide +kernel
theorem dX8_storesAt_25 : decode cX8_storesAt 25 = .ok (.ireturn, 1) := by decide +kernel
theorem dX8_storesAt_26 : decode cX8_storesAt 26 = .ok (.aload_n 0, 1) := by decide +kernel
theorem dX8_storesAt_27 : decode cX8_storesAt 27 = .ok (.iload_n 1, 1) := by decide +kernel
theorem dX8_storesAt_28 : decode cX8_storesAt 28 = .ok (.iload_n 3, 1) := by decide +kernel
theorem dX8_storesAt_29 : decode cX8_storesAt 29 = .ok (.invokevirtual 97, 3) := by decide +kernel
theorem dX8_storesAt_32 : decode cX8_storesAt 32 = .ok (.istore 4, 2) := by decide +kernel
theorem dX8_storesAt_34 : decode cX8_storesAt 34 = .ok (.iload 4, 2) := by decide +kernel
theorem dX8_storesAt_36 : decode cX8_storesAt 36 = .ok (.ifCond .ne 37, 3) := by decide +kernel
theorem dX8_storesAt_39 : decode cX8_storesAt 39 = .ok (.aload_n 0, 1) := by decide +kernel
theorem dX8_storesAt_40 : decode cX8_storesAt 40 = .ok (.iload_n 2, 1) := by decide +kernel
theorem dX8_storesAt_41 : decode cX8_storesAt 41 = .ok (.invokevirtual 55, 3) := by decide +kernel
theorem dX8_storesAt_44 : decode cX8_storesAt 44 = .ok (.ifCond .ne 7, 3) := by decide +kernel
theorem dX8_storesAt_47 : decode cX8_storesAt 47 = .ok (.iconst 1, 1) := by decide +kernel
theorem dX8_storesAt_48 : decode cX8_storesAt 48 = .ok (.goto 23, 3) := by decide +kernel
theorem dX8_storesAt_51 : decode cX8_storesAt 51 = .ok (.aload_n 0, 1) := by decide +kernel
theorem dX8_storesAt_52 : decode cX8_storesAt 52 = .ok (.iload_n 2, 1) := by decide +kernel
theorem dX8_storesAt_53 : decode cX8_storesAt 53 = .ok (.invokevirtual 55, 3) := by decide +kernel
theorem dX8_storesAt_56 : decode cX8_storesAt 56 = .ok (.iconst 2, 1) := by decide +kernel
theorem dX8_storesAt_57 : decode cX8_storesAt 57 = .ok (.if_icmp .ne 13, 3) := by decide +kernel
theorem dX8_storesAt_60 : decode cX8_storesAt 60 = .ok (.iload_n 3, 1) := by decide +kernel
theorem dX8_storesAt_61 : decode cX8_storesAt 61 = .ok (.iconst 1, 1) := by decide +kernel
theorem dX8_storesAt_62 : decode cX8_storesAt 62 = .ok (.if_icmp .ne 8, 3) := by decide +kernel
theorem dX8_storesAt_65 : decode cX8_storesAt 65 = .ok (.bipush 7, 2) := by decide +kernel
theorem dX8_storesAt_67 : decode cX8_storesAt 67 = .ok (.goto 4, 3) := by decide +kernel
theorem dX8_storesAt_70 : decode cX8_storesAt 70 = .ok (.iconst 0, 1) := by decide +kernel
theorem dX8_storesAt_71 : decode cX8_storesAt 71 = .ok (.istore 4, 2) := by decide +kernel
theorem dX8_storesAt_73 : decode cX8_storesAt 73 = .ok (.iload 4, 2) := by decide +kernel
theorem dX8_storesAt_75 : decode cX8_storesAt 75 = .ok (.ifCond .eq 9, 3) := by decide +kernel
theorem dX8_storesAt_78 : decode cX8_storesAt 78 = .ok (.iload 4, 2) := by decide +kernel
theorem dX8_storesAt_80 : decode cX8_storesAt 80 = .ok (.invokestatic 92, 3) := by decide +kernel
theorem dX8_storesAt_83 : decode cX8_storesAt 83 = .ok (.ireturn, 1) := by decide +kernel
theorem dX8_storesAt_84 : decode cX8_storesAt 84 = .ok (.aload_n 0, 1) := by decide +kernel
theorem dX8_storesAt_85 : decode cX8_storesAt 85 = .ok (.iload_n 1, 1) := by decide +kernel
theorem dX8_storesAt_86 : decode cX8_storesAt 86 = .ok (.invokevirtual 58, 3) := by decide +kernel
theorem dX8_storesAt_89 : decode cX8_storesAt 89 = .ok (.istore 5, 2) := by decide +kernel
theorem dX8_storesAt_91 : decode cX8_storesAt 91 = .ok (.aload_n 0, 1) := by decide +kernel
theorem dX8_storesAt_92 : decode cX8_storesAt 92 = .ok (.iload_n 1, 1) := by decide +kernel
theorem dX8_storesAt_93 : decode cX8_storesAt 93 = .ok (.invokevirtual 65, 3) := by decide +kernel
theorem dX8_storesAt_96 : decode cX8_storesAt 96 = .ok (.istore 6, 2) := by decide +kernel
theorem dX8_storesAt_98 : decode cX8_storesAt 98 = .ok (.aload_n 0, 1) := by decide +kernel
theorem dX8_storesAt_99 : decode cX8_storesAt 99 = .ok (.iload_n 2, 1) := by decide +kernel
theorem dX8_storesAt_100 : decode cX8_storesAt 100 = .ok (.invokevirtual 58, 3) := by decide +kernel
theorem dX8_storesAt_103 : decode cX8_storesAt 103 = .ok (.istore 7, 2) := by decide +kernel
theorem dX8_storesAt_105 : decode cX8_storesAt 105 = .ok (.aload_n 0, 1) := by decide +kernel
theorem dX8_storesAt_106 : decode cX8_storesAt 106 = .ok (.iload 5, 2) := by decide +kernel
theorem dX8_storesAt_108 : decode cX8_storesAt 108 = .ok (.iload 6, 2) := by decide +kernel
theorem dX8_storesAt_110 : decode cX8_storesAt 110 = .ok (.iload_n 3, 1) := by decide +kernel
theorem dX8_storesAt_111 : decode cX8_storesAt 111 = .ok (.invokevirtual 100, 3) := by decide +kernel
theorem dX8_storesAt_114 : decode cX8_storesAt 114 = .ok (.aload_n 0, 1) := by decide +kernel
theorem dX8_storesAt_115 : decode cX8_storesAt 115 = .ok (.iload_n 2, 1) := by decide +kernel
theorem dX8_storesAt_116 : decode cX8_storesAt 116 = .ok (.invokevirtual 55, 3) := by decide +kernel
theorem dX8_storesAt_119 : decode cX8_storesAt 119 = .ok (.iconst 2, 1) := by decide +kernel
theorem dX8_storesAt_120 : decode cX8_storesAt 120 = .ok (.if_icmp .ne 7, 3) := by decide +kernel
theorem dX8_storesAt_123 : decode cX8_storesAt 123 = .ok (.iconst 1, 1) := by decide +kernel
theorem dX8_storesAt_124 : decode cX8_storesAt 124 = .ok (.goto 4, 3) := by decide +kernel
theorem dX8_storesAt_127 : decode cX8_storesAt 127 = .ok (.iconst 0, 1) := by decide +kernel
theorem dX8_storesAt_128 : decode cX8_storesAt 128 = .ok (.istore 8, 2) := by decide +kernel
theorem dX8_storesAt_130 : decode cX8_storesAt 130 = .ok (.aload_n 0, 1) := by decide +kernel
theorem dX8_storesAt_131 : decode cX8_storesAt 131 = .ok (.getfield 7, 3) := by decide +kernel
theorem dX8_storesAt_134 : decode cX8_storesAt 134 = .ok (.iload 5, 2) := by decide +kernel
theorem dX8_storesAt_136 : decode cX8_storesAt 136 = .ok (.iload 6, 2) := by decide +kernel
theorem dX8_storesAt_138 : decode cX8_storesAt 138 = .ok (.invokestatic 81, 3) := by decide +kernel
theorem dX8_storesAt_141 : decode cX8_storesAt 141 = .ok (.iload 8, 2) := by decide +kernel
theorem dX8_storesAt_143 : decode cX8_storesAt 143 = .ok (.ifCond .eq 21, 3) := by decide +kernel
theorem dX8_storesAt_146 : decode cX8_storesAt 146 = .ok (.sipush 1000, 3) := by decide +kernel
theorem dX8_storesAt_149 : decode cX8_storesAt 149 = .ok (.bipush 100, 2) := by decide +kernel
theorem dX8_storesAt_151 : decode cX8_storesAt 151 = .ok (.iload 7, 2) := by decide +kernel
theorem dX8_storesAt_153 : decode cX8_storesAt 153 = .ok (.imul, 1) := by decide +kernel
theorem dX8_storesAt_154 : decode cX8_storesAt 154 = .ok (.iadd, 1) := by decide +kernel
theorem dX8_storesAt_155 : decode cX8_storesAt 155 = .ok (.aload_n 0, 1) := by decide +kernel
theorem dX8_storesAt_156 : decode cX8_storesAt 156 = .ok (.iload_n 2, 1) := by decide +kernel
theorem dX8_storesAt_157 : decode cX8_storesAt 157 = .ok (.invokevirtual 65, 3) := by decide +kernel
theorem dX8_storesAt_160 : decode cX8_storesAt 160 = .ok (.iadd, 1) := by decide +kernel
theorem dX8_storesAt_161 : decode cX8_storesAt 161 = .ok (.goto 9, 3) := by decide +kernel
theorem dX8_storesAt_164 : decode cX8_storesAt 164 = .ok (.iload 7, 2) := by decide +kernel
theorem dX8_storesAt_166 : decode cX8_storesAt 166 = .ok (.sipush 255, 3) := by decide +kernel
theorem dX8_storesAt_169 : decode cX8_storesAt 169 = .ok (.iand, 1) := by decide +kernel
theorem dX8_storesAt_170 : decode cX8_storesAt 170 = .ok (.iastore, 1) := by decide +kernel
theorem dX8_storesAt_171 : decode cX8_storesAt 171 = .ok (.iload_n 3, 1) := by decide +kernel
theorem dX8_storesAt_172 : decode cX8_storesAt 172 = .ok (.iconst 2, 1) := by decide +kernel
theorem dX8_storesAt_173 : decode cX8_storesAt 173 = .ok (.if_icmp .ne 33, 3) := by decide +kernel
theorem dX8_storesAt_176 : decode cX8_storesAt 176 = .ok (.aload_n 0, 1) := by decide +kernel
theorem dX8_storesAt_177 : decode cX8_storesAt 177 = .ok (.getfield 7, 3) := by decide +kernel
theorem dX8_storesAt_180 : decode cX8_storesAt 180 = .ok (.iload 5, 2) := by decide +kernel
theorem dX8_storesAt_182 : decode cX8_storesAt 182 = .ok (.iload 6, 2) := by decide +kernel
theorem dX8_storesAt_184 : decode cX8_storesAt 184 = .ok (.iconst 1, 1) := by decide +kernel
theorem dX8_storesAt_185 : decode cX8_storesAt 185 = .ok (.iadd, 1) := by decide +kernel
theorem dX8_storesAt_186 : decode cX8_storesAt 186 = .ok (.invokestatic 81, 3) := by decide +kernel
theorem dX8_storesAt_189 : decode cX8_storesAt 189 = .ok (.iload 8, 2) := by decide +kernel
theorem dX8_storesAt_191 : decode cX8_storesAt 191 = .ok (.ifCond .eq 9, 3) := by decide +kernel
theorem dX8_storesAt_194 : decode cX8_storesAt 194 = .ok (.sipush 999, 3) := by decide +kernel
theorem dX8_storesAt_197 : decode cX8_storesAt 197 = .ok (.goto 8, 3) := by decide +kernel
theorem dX8_storesAt_200 : decode cX8_storesAt 200 = .ok (.iload 7, 2) := by decide +kernel
theorem dX8_storesAt_202 : decode cX8_storesAt 202 = .ok (.bipush 8, 2) := by decide +kernel
theorem dX8_storesAt_204 : decode cX8_storesAt 204 = .ok (.ishr, 1) := by decide +kernel
theorem dX8_storesAt_205 : decode cX8_storesAt 205 = .ok (.iastore, 1) := by decide +kernel
theorem dX8_storesAt_206 : decode cX8_storesAt 206 = .ok (.iload 6, 2) := by decide +kernel
theorem dX8_storesAt_208 : decode cX8_storesAt 208 = .ok (.ireturn, 1) := by decide +kernel
theorem dX8_loadsFrom_0 : decode cX8_loadsFrom 0 = .ok (.iload_n 1, 1) := by decide +kernel
theorem dX8_loadsFrom_1 : decode cX8_loadsFrom 1 = .ok (.invokestatic 85, 3) := by decide +kernel
theorem dX8_loadsFrom_4 : decode cX8_loadsFrom 4 = .ok (.ifCond .eq 19, 3) := by decide +kernel
theorem dX8_loadsFrom_7 : decode cX8_loadsFrom 7 = .ok (.iload_n 2, 1) := by decide +kernel
theorem dX8_loadsFrom_8 : decode cX8_loadsFrom 8 = .ok (.invokestatic 85, 3) := by decide +kernel
theorem dX8_loadsFrom_11 : decode cX8_loadsFrom 11 = .ok (.ifCond .eq 12, 3) := by decide +kernel
theorem dX8_loadsFrom_14 : decode cX8_loadsFrom 14 = .ok (.iload_n 3, 1) := by decide +kernel
theorem dX8_loadsFrom_15 : decode cX8_loadsFrom 15 = .ok (.iconst 1, 1) := by decide +kernel
theorem dX8_loadsFrom_16 : decode cX8_loadsFrom 16 = .ok (.iconst 2, 1) := by decide +kernel
theorem dX8_loadsFrom_17 : decode cX8_loadsFrom 17 = .ok (.invokestatic 51, 3) := by decide +kernel
theorem dX8_loadsFrom_20 : decode cX8_loadsFrom 20 = .ok (.ifCond .ne 6, 3) := by decide +kernel
theorem dX8_loadsFrom_23 : decode cX8_loadsFrom 23 = .ok (.bipush (-2), 2) := by decide +kernel
theorem dX8_loadsFrom_25 : decode cX8_loadsFrom 25 = .ok (.ireturn, 1) := by decide +kernel
theorem dX8_loadsFrom_26 : decode cX8_loadsFrom 26 = .ok (.aload_n 0, 1) := by decide +kernel
theorem dX8_loadsFrom_27 : decode cX8_loadsFrom 27 = .ok (.iload_n 2, 1) := by decide +kernel
theorem dX8_loadsFrom_28 : decode cX8_loadsFrom 28 = .ok (.iload_n 3, 1) := by decide +kernel
theorem dX8_loadsFrom_29 : decode cX8_loadsFrom 29 = .ok (.invokevirtual 104, 3) := by decide +kernel
theorem dX8_loadsFrom_32 : decode cX8_loadsFrom 32 = .ok (.istore 4, 2) := by decide +kernel
theorem dX8_loadsFrom_34 : decode cX8_loadsFrom 34 = .ok (.iload 4, 2) := by decide +kernel
theorem dX8_loadsFrom_36 : decode cX8_loadsFrom 36 = .ok (.ifCond .eq 9, 3) := by decide +kernel
theorem dX8_loadsFrom_39 : decode cX8_loadsFrom 39 = .ok (.iload 4, 2) := by decide +kernel
theorem dX8_loadsFrom_41 : decode cX8_loadsFrom 41 = .ok (.invokestatic 92, 3) := by decide +kernel
theorem dX8_loadsFrom_44 : decode cX8_loadsFrom 44 = .ok (.ireturn, 1) := by decide +kernel
theorem dX8_loadsFrom_45 : decode cX8_loadsFrom 45 = .ok (.aload_n 0, 1) := by decide +kernel
theorem dX8_loadsFrom_46 : decode cX8_loadsFrom 46 = .ok (.getfield 7, 3) := by decide +kernel
theorem dX8_loadsFrom_49 : decode cX8_loadsFrom 49 = .ok (.aload_n 0, 1) := by decide +kernel
theorem dX8_loadsFrom_50 : decode cX8_loadsFrom 50 = .ok (.iload_n 2, 1) := by decide +kernel
theorem dX8_loadsFrom_51 : decode cX8_loadsFrom 51 = .ok (.invokevirtual 58, 3) := by decide +kernel
theorem dX8_loadsFrom_54 : decode cX8_loadsFrom 54 = .ok (.aload_n 0, 1) := by decide +kernel
theorem dX8_loadsFrom_55 : decode cX8_loadsFrom 55 = .ok (.iload_n 2, 1) := by decide +kernel
theorem dX8_loadsFrom_56 : decode cX8_loadsFrom 56 = .ok (.invokevirtual 65, 3) := by decide +kernel
theorem dX8_loadsFrom_59 : decode cX8_loadsFrom 59 = .ok (.invokestatic 81, 3) := by decide +kernel
theorem dX8_loadsFrom_62 : decode cX8_loadsFrom 62 = .ok (.iaload, 1) := by decide +kernel
theorem dX8_loadsFrom_63 : decode cX8_loadsFrom 63 = .ok (.istore 5, 2) := by decide +kernel
theorem dX8_loadsFrom_65 : decode cX8_loadsFrom 65 = .ok (.iload_n 3, 1) := by decide +kernel
theorem dX8_loadsFrom_66 : decode cX8_loadsFrom 66 = .ok (.iconst 2, 1) := by decide +kernel
theorem dX8_loadsFrom_67 : decode cX8_loadsFrom 67 = .ok (.if_icmp .ne 26, 3) := by decide +kernel
theorem dX8_loadsFrom_70 : decode cX8_loadsFrom 70 = .ok (.aload_n 0, 1) := by decide +kernel
theorem dX8_loadsFrom_71 : decode cX8_loadsFrom 71 = .ok (.getfield 7, 3) := by decide +kernel
theorem dX8_loadsFrom_74 : decode cX8_loadsFrom 74 = .ok (.aload_n 0, 1) := by decide +kernel
theorem dX8_loadsFrom_75 : decode cX8_loadsFrom 75 = .ok (.iload_n 2, 1) := by decide +kernel
theorem dX8_loadsFrom_76 : decode cX8_loadsFrom 76 = .ok (.invokevirtual 58, 3) := by decide +kernel
theorem dX8_loadsFrom_79 : decode cX8_loadsFrom 79 = .ok (.aload_n 0, 1) := by decide +kernel
theorem dX8_loadsFrom_80 : decode cX8_loadsFrom 80 = .ok (.iload_n 2, 1) := by decide +kernel
theorem dX8_loadsFrom_81 : decode cX8_loadsFrom 81 = .ok (.invokevirtual 65, 3) := by decide +kernel
theorem dX8_loadsFrom_84 : decode cX8_loadsFrom 84 = .ok (.iconst 1, 1) := by decide +kernel
theorem dX8_loadsFrom_85 : decode cX8_loadsFrom 85 = .ok (.iadd, 1) := by decide +kernel
theorem dX8_loadsFrom_86 : decode cX8_loadsFrom 86 = .ok (.invokestatic 81, 3) := by decide +kernel
theorem dX8_loadsFrom_89 : decode cX8_loadsFrom 89 = .ok (.iaload, 1) := by decide +kernel
theorem dX8_loadsFrom_90 : decode cX8_loadsFrom 90 = .ok (.goto 4, 3) := by decide +kernel
theorem dX8_loadsFrom_93 : decode cX8_loadsFrom 93 = .ok (.iconst 0, 1) := by decide +kernel
theorem dX8_loadsFrom_94 : decode cX8_loadsFrom 94 = .ok (.istore 6, 2) := by decide +kernel
theorem dX8_loadsFrom_96 : decode cX8_loadsFrom 96 = .ok (.iload_n 3, 1) := by decide +kernel
theorem dX8_loadsFrom_97 : decode cX8_loadsFrom 97 = .ok (.iconst 2, 1) := by decide +kernel
theorem dX8_loadsFrom_98 : decode cX8_loadsFrom 98 = .ok (.if_icmp .ne 36, 3) := by decide +kernel
theorem dX8_loadsFrom_101 : decode cX8_loadsFrom 101 = .ok (.iload 5, 2) := by decide +kernel
theorem dX8_loadsFrom_103 : decode cX8_loadsFrom 103 = .ok (.sipush 1000, 3) := by decide +kernel
theorem dX8_loadsFrom_106 : decode cX8_loadsFrom 106 = .ok (.if_icmp .lt 28, 3) := by decide +kernel
theorem dX8_loadsFrom_109 : decode cX8_loadsFrom 109 = .ok (.aload_n 0, 1) := by decide +kernel
theorem dX8_loadsFrom_110 : decode cX8_loadsFrom 110 = .ok (.iload_n 1, 1) := by decide +kernel
theorem dX8_loadsFrom_111 : decode cX8_loadsFrom 111 = .ok (.iconst 2, 1) := by decide +kernel
theorem dX8_loadsFrom_112 : decode cX8_loadsFrom 112 = .ok (.iload 5, 2) := by decide +kernel
theorem dX8_loadsFrom_114 : decode cX8_loadsFrom 114 = .ok (.sipush 1000, 3) := by decide +kernel
theorem dX8_loadsFrom_117 : decode cX8_loadsFrom 117 = .ok (.isub, 1) := by decide +kernel
theorem dX8_loadsFrom_118 : decode cX8_loadsFrom 118 = .ok (.bipush 100, 2) := by decide +kernel
theorem dX8_loadsFrom_120 : decode cX8_loadsFrom 120 = .ok (.idiv, 1) := by decide +kernel
theorem dX8_loadsFrom_121 : decode cX8_loadsFrom 121 = .ok (.iload 5, 2) := by decide +kernel
theorem dX8_loadsFrom_123 : decode cX8_loadsFrom 123 = .ok (.sipush 1000, 3) := by decide +kernel
theorem dX8_loadsFrom_126 : decode cX8_loadsFrom 126 = .ok (.isub, 1) := by decide +kernel
theorem dX8_loadsFrom_127 : decode cX8_loadsFrom 127 = .ok (.bipush 100, 2) := by decide +kernel
theorem dX8_loadsFrom_129 : decode cX8_loadsFrom 129 = .ok (.irem, 1) := by decide +kernel
theorem dX8_loadsFrom_130 : decode cX8_loadsFrom 130 = .ok (.invokevirtual 88, 3) := by decide +kernel
theorem dX8_loadsFrom_133 : decode cX8_loadsFrom 133 = .ok (.ireturn, 1) := by decide +kernel
theorem dX8_loadsFrom_134 : decode cX8_loadsFrom 134 = .ok (.iload 5, 2) := by decide +kernel
theorem dX8_loadsFrom_136 : decode cX8_loadsFrom 136 = .ok (.sipush 999, 3) := by decide +kernel
theorem dX8_loadsFrom_139 : decode cX8_loadsFrom 139 = .ok (.if_icmp .ge 11, 3) := by decide +kernel
theorem dX8_loadsFrom_142 : decode cX8_loadsFrom 142 = .ok (.iload 6, 2) := by decide +kernel
theorem dX8_loadsFrom_144 : decode cX8_loadsFrom 144 = .ok (.sipush 999, 3) := by decide +kernel
theorem dX8_loadsFrom_147 : decode cX8_loadsFrom 147 = .ok (.if_icmp .lt 9, 3) := by decide +kernel
theorem dX8_loadsFrom_150 : decode cX8_loadsFrom 150 = .ok (.bipush 6, 2) := by decide +kernel
theorem dX8_loadsFrom_152 : decode cX8_loadsFrom 152 = .ok (.invokestatic 92, 3) := by decide +kernel
theorem dX8_loadsFrom_155 : decode cX8_loadsFrom 155 = .ok (.ireturn, 1) := by decide +kernel
theorem dX8_loadsFrom_156 : decode cX8_loadsFrom 156 = .ok (.iload 5, 2) := by decide +kernel
theorem dX8_loadsFrom_158 : decode cX8_loadsFrom 158 = .ok (.iconst (-1), 1) := by decide +kernel
theorem dX8_loadsFrom_159 : decode cX8_loadsFrom 159 = .ok (.if_icmp .eq 9, 3) := by decide +kernel
theorem dX8_loadsFrom_162 : decode cX8_loadsFrom 162 = .ok (.iload 6, 2) := by decide +kernel
theorem dX8_loadsFrom_164 : decode cX8_loadsFrom 164 = .ok (.iconst (-1), 1) := by decide +kernel
theorem dX8_loadsFrom_165 : decode cX8_loadsFrom 165 = .ok (.if_icmp .ne 10, 3) := by decide +kernel
theorem dX8_loadsFrom_168 : decode cX8_loadsFrom 168 = .ok (.iconst 1, 1) := by decide +kernel
theorem dX8_loadsFrom_169 : decode cX8_loadsFrom 169 = .ok (.invokestatic 92, 3) := by decide +kernel
theorem dX8_loadsFrom_172 : decode cX8_loadsFrom 172 = .ok (.goto 19, 3) := by decide +kernel
theorem dX8_loadsFrom_175 : decode cX8_loadsFrom 175 = .ok (.aload_n 0, 1) := by decide +kernel
theorem dX8_loadsFrom_176 : decode cX8_loadsFrom 176 = .ok (.iload_n 1, 1) := by decide +kernel
theorem dX8_loadsFrom_177 : decode cX8_loadsFrom 177 = .ok (.iconst 1, 1) := by decide +kernel
theorem dX8_loadsFrom_178 : decode cX8_loadsFrom 178 = .ok (.iload 5, 2) := by decide +kernel
theorem dX8_loadsFrom_180 : decode cX8_loadsFrom 180 = .ok (.sipush 256, 3) := by decide +kernel
theorem dX8_loadsFrom_183 : decode cX8_loadsFrom 183 = .ok (.iload 6, 2) := by decide +kernel
theorem dX8_loadsFrom_185 : decode cX8_loadsFrom 185 = .ok (.imul, 1) := by decide +kernel
theorem dX8_loadsFrom_186 : decode cX8_loadsFrom 186 = .ok (.iadd, 1) := by decide +kernel
theorem dX8_loadsFrom_187 : decode cX8_loadsFrom 187 = .ok (.iconst 0, 1) := by decide +kernel
theorem dX8_loadsFrom_188 : decode cX8_loadsFrom 188 = .ok (.invokevirtual 88, 3) := by decide +kernel
theorem dX8_loadsFrom_191 : decode cX8_loadsFrom 191 = .ok (.ireturn, 1) := by decide +kernel
theorem dX8_comparesTo_0 : decode cX8_comparesTo 0 = .ok (.iload_n 1, 1) := by decide +kernel
theorem dX8_comparesTo_1 : decode cX8_comparesTo 1 = .ok (.invokestatic 85, 3) := by decide +kernel
theorem dX8_comparesTo_4 : decode cX8_comparesTo 4 = .ok (.ifCond .eq 10, 3) := by decide +kernel
theorem dX8_comparesTo_7 : decode cX8_comparesTo 7 = .ok (.iload_n 2, 1) := by decide +kernel
theorem dX8_comparesTo_8 : decode cX8_comparesTo 8 = .ok (.invokestatic 85, 3) := by decide +kernel
theorem dX8_comparesTo_11 : decode cX8_comparesTo 11 = .ok (.ifCond .ne 6, 3) := by decide +kernel
theorem dX8_comparesTo_14 : decode cX8_comparesTo 14 = .ok (.bipush (-2), 2) := by decide +kernel
theorem dX8_comparesTo_16 : decode cX8_comparesTo 16 = .ok (.ireturn, 1) := by decide +kernel
theorem dX8_comparesTo_17 : decode cX8_comparesTo 17 = .ok (.aload_n 0, 1) := by decide +kernel
theorem dX8_comparesTo_18 : decode cX8_comparesTo 18 = .ok (.iload_n 1, 1) := by decide +kernel
theorem dX8_comparesTo_19 : decode cX8_comparesTo 19 = .ok (.invokevirtual 55, 3) := by decide +kernel
theorem dX8_comparesTo_22 : decode cX8_comparesTo 22 = .ok (.ifCond .eq 11, 3) := by decide +kernel
theorem dX8_comparesTo_25 : decode cX8_comparesTo 25 = .ok (.aload_n 0, 1) := by decide +kernel
theorem dX8_comparesTo_26 : decode cX8_comparesTo 26 = .ok (.iload_n 2, 1) := by decide +kernel
theorem dX8_comparesTo_27 : decode cX8_comparesTo 27 = .ok (.invokevirtual 55, 3) := by decide +kernel
theorem dX8_comparesTo_30 : decode cX8_comparesTo 30 = .ok (.ifCond .ne 8, 3) := by decide +kernel
theorem dX8_comparesTo_33 : decode cX8_comparesTo 33 = .ok (.iconst 1, 1) := by decide +kernel
theorem dX8_comparesTo_34 : decode cX8_comparesTo 34 = .ok (.invokestatic 92, 3) := by decide +kernel
theorem dX8_comparesTo_37 : decode cX8_comparesTo 37 = .ok (.ireturn, 1) := by decide +kernel
theorem dX8_comparesTo_38 : decode cX8_comparesTo 38 = .ok (.aload_n 0, 1) := by decide +kernel
theorem dX8_comparesTo_39 : decode cX8_comparesTo 39 = .ok (.iload_n 1, 1) := by decide +kernel
theorem dX8_comparesTo_40 : decode cX8_comparesTo 40 = .ok (.invokevirtual 55, 3) := by decide +kernel
theorem dX8_comparesTo_43 : decode cX8_comparesTo 43 = .ok (.aload_n 0, 1) := by decide +kernel
theorem dX8_comparesTo_44 : decode cX8_comparesTo 44 = .ok (.iload_n 2, 1) := by decide +kernel
theorem dX8_comparesTo_45 : decode cX8_comparesTo 45 = .ok (.invokevirtual 55, 3) := by decide +kernel
theorem dX8_comparesTo_48 : decode cX8_comparesTo 48 = .ok (.if_icmp .eq 9, 3) := by decide +kernel
theorem dX8_comparesTo_51 : decode cX8_comparesTo 51 = .ok (.bipush 7, 2) := by decide +kernel
theorem dX8_comparesTo_53 : decode cX8_comparesTo 53 = .ok (.invokestatic 92, 3) := by decide +kernel
theorem dX8_comparesTo_56 : decode cX8_comparesTo 56 = .ok (.ireturn, 1) := by decide +kernel
theorem dX8_comparesTo_57 : decode cX8_comparesTo 57 = .ok (.aload_n 0, 1) := by decide +kernel
theorem dX8_comparesTo_58 : decode cX8_comparesTo 58 = .ok (.iload_n 1, 1) := by decide +kernel
theorem dX8_comparesTo_59 : decode cX8_comparesTo 59 = .ok (.invokevirtual 55, 3) := by decide +kernel
theorem dX8_comparesTo_62 : decode cX8_comparesTo 62 = .ok (.iconst 2, 1) := by decide +kernel
theorem dX8_comparesTo_63 : decode cX8_comparesTo 63 = .ok (.if_icmp .ne 7, 3) := by decide +kernel
theorem dX8_comparesTo_66 : decode cX8_comparesTo 66 = .ok (.iconst 1, 1) := by decide +kernel
theorem dX8_comparesTo_67 : decode cX8_comparesTo 67 = .ok (.goto 4, 3) := by decide +kernel
theorem dX8_comparesTo_70 : decode cX8_comparesTo 70 = .ok (.iconst 0, 1) := by decide +kernel
theorem dX8_comparesTo_71 : decode cX8_comparesTo 71 = .ok (.istore_n 3, 1) := by decide +kernel
theorem dX8_comparesTo_72 : decode cX8_comparesTo 72 = .ok (.iload_n 3, 1) := by decide +kernel
theorem dX8_comparesTo_73 : decode cX8_comparesTo 73 = .ok (.ifCond .eq 22, 3) := by decide +kernel
theorem dX8_comparesTo_76 : decode cX8_comparesTo 76 = .ok (.aload_n 0, 1) := by decide +kernel
theorem dX8_comparesTo_77 : decode cX8_comparesTo 77 = .ok (.iload_n 1, 1) := by decide +kernel
theorem dX8_comparesTo_78 : decode cX8_comparesTo 78 = .ok (.invokevirtual 58, 3) := by decide +kernel
theorem dX8_comparesTo_81 : decode cX8_comparesTo 81 = .ok (.aload_n 0, 1) := by decide +kernel
theorem dX8_comparesTo_82 : decode cX8_comparesTo 82 = .ok (.iload_n 2, 1) := by decide +kernel
theorem dX8_comparesTo_83 : decode cX8_comparesTo 83 = .ok (.invokevirtual 58, 3) := by decide +kernel
theorem dX8_comparesTo_86 : decode cX8_comparesTo 86 = .ok (.if_icmp .eq 9, 3) := by decide +kernel
theorem dX8_comparesTo_89 : decode cX8_comparesTo 89 = .ok (.bipush 8, 2) := by decide +kernel
theorem dX8_comparesTo_91 : decode cX8_comparesTo 91 = .ok (.invokestatic 92, 3) := by decide +kernel
theorem dX8_comparesTo_94 : decode cX8_comparesTo 94 = .ok (.ireturn, 1) := by decide +kernel
theorem dX8_comparesTo_95 : decode cX8_comparesTo 95 = .ok (.iload_n 3, 1) := by decide +kernel
theorem dX8_comparesTo_96 : decode cX8_comparesTo 96 = .ok (.ifCond .eq 11, 3) := by decide +kernel
theorem dX8_comparesTo_99 : decode cX8_comparesTo 99 = .ok (.aload_n 0, 1) := by decide +kernel
theorem dX8_comparesTo_100 : decode cX8_comparesTo 100 = .ok (.iload_n 1, 1) := by decide +kernel
theorem dX8_comparesTo_101 : decode cX8_comparesTo 101 = .ok (.invokevirtual 65, 3) := by decide +kernel
theorem dX8_comparesTo_104 : decode cX8_comparesTo 104 = .ok (.goto 8, 3) := by decide +kernel
theorem dX8_comparesTo_107 : decode cX8_comparesTo 107 = .ok (.aload_n 0, 1) := by decide +kernel
theorem dX8_comparesTo_108 : decode cX8_comparesTo 108 = .ok (.iload_n 1, 1) := by decide +kernel
theorem dX8_comparesTo_109 : decode cX8_comparesTo 109 = .ok (.invokevirtual 58, 3) := by decide +kernel
theorem dX8_comparesTo_112 : decode cX8_comparesTo 112 = .ok (.istore 4, 2) := by decide +kernel
theorem dX8_comparesTo_114 : decode cX8_comparesTo 114 = .ok (.iload_n 3, 1) := by decide +kernel
theorem dX8_comparesTo_115 : decode cX8_comparesTo 115 = .ok (.ifCond .eq 11, 3) := by decide +kernel
theorem dX8_comparesTo_118 : decode cX8_comparesTo 118 = .ok (.aload_n 0, 1) := by decide +kernel
theorem dX8_comparesTo_119 : decode cX8_comparesTo 119 = .ok (.iload_n 2, 1) := by decide +kernel
theorem dX8_comparesTo_120 : decode cX8_comparesTo 120 = .ok (.invokevirtual 65, 3) := by decide +kernel
theorem dX8_comparesTo_123 : decode cX8_comparesTo 123 = .ok (.goto 8, 3) := by decide +kernel
theorem dX8_comparesTo_126 : decode cX8_comparesTo 126 = .ok (.aload_n 0, 1) := by decide +kernel
theorem dX8_comparesTo_127 : decode cX8_comparesTo 127 = .ok (.iload_n 2, 1) := by decide +kernel
theorem dX8_comparesTo_128 : decode cX8_comparesTo 128 = .ok (.invokevirtual 58, 3) := by decide +kernel
theorem dX8_comparesTo_131 : decode cX8_comparesTo 131 = .ok (.istore 5, 2) := by decide +kernel
theorem dX8_comparesTo_133 : decode cX8_comparesTo 133 = .ok (.iload 4, 2) := by decide +kernel
theorem dX8_comparesTo_135 : decode cX8_comparesTo 135 = .ok (.iload 5, 2) := by decide +kernel
theorem dX8_comparesTo_137 : decode cX8_comparesTo 137 = .ok (.if_icmp .ge 7, 3) := by decide +kernel
theorem dX8_comparesTo_140 : decode cX8_comparesTo 140 = .ok (.iconst 0, 1) := by decide +kernel
theorem dX8_comparesTo_141 : decode cX8_comparesTo 141 = .ok (.goto 15, 3) := by decide +kernel
theorem dX8_comparesTo_144 : decode cX8_comparesTo 144 = .ok (.iload 4, 2) := by decide +kernel
theorem dX8_comparesTo_146 : decode cX8_comparesTo 146 = .ok (.iload 5, 2) := by decide +kernel
theorem dX8_comparesTo_148 : decode cX8_comparesTo 148 = .ok (.if_icmp .ne 7, 3) := by decide +kernel
theorem dX8_comparesTo_151 : decode cX8_comparesTo 151 = .ok (.iconst 1, 1) := by decide +kernel
theorem dX8_comparesTo_152 : decode cX8_comparesTo 152 = .ok (.goto 4, 3) := by decide +kernel
theorem dX8_comparesTo_155 : decode cX8_comparesTo 155 = .ok (.iconst 2, 1) := by decide +kernel
theorem dX8_comparesTo_156 : decode cX8_comparesTo 156 = .ok (.ireturn, 1) := by decide +kernel
theorem dX8_blits_0 : decode cX8_blits 0 = .ok (.iload_n 1, 1) := by decide +kernel
theorem dX8_blits_1 : decode cX8_blits 1 = .ok (.invokestatic 85, 3) := by decide +kernel
theorem dX8_blits_4 : decode cX8_blits 4 = .ok (.ifCond .eq 20, 3) := by decide +kernel
theorem dX8_blits_7 : decode cX8_blits 7 = .ok (.iload_n 2, 1) := by decide +kernel
theorem dX8_blits_8 : decode cX8_blits 8 = .ok (.invokestatic 85, 3) := by decide +kernel
theorem dX8_blits_11 : decode cX8_blits 11 = .ok (.ifCond .eq 13, 3) := by decide +kernel
theorem dX8_blits_14 : decode cX8_blits 14 = .ok (.iload_n 3, 1) := by decide +kernel
theorem dX8_blits_15 : decode cX8_blits 15 = .ok (.iconst 1, 1) := by decide +kernel
theorem dX8_blits_16 : decode cX8_blits 16 = .ok (.bipush 12, 2) := by decide +kernel
theorem dX8_blits_18 : decode cX8_blits 18 = .ok (.invokestatic 51, 3) := by decide +kernel
theorem dX8_blits_21 : decode cX8_blits 21 = .ok (.ifCond .ne 6, 3) := by decide +kernel
theorem dX8_blits_24 : decode cX8_blits 24 = .ok (.bipush (-2), 2) := by decide +kernel
theorem dX8_blits_26 : decode cX8_blits 26 = .ok (.ireturn, 1) := by decide +kernel
theorem dX8_blits_27 : decode cX8_blits 27 = .ok (.aload_n 0, 1) := by decide +kernel
theorem dX8_blits_28 : decode cX8_blits 28 = .ok (.iload_n 1, 1) := by decide +kernel
theorem dX8_blits_29 : decode cX8_blits 29 = .ok (.iload_n 3, 1) := by decide +kernel
theorem dX8_blits_30 : decode cX8_blits 30 = .ok (.invokevirtual 97, 3) := by decide +kernel
theorem dX8_blits_33 : decode cX8_blits 33 = .ok (.istore 4, 2) := by decide +kernel
theorem dX8_blits_35 : decode cX8_blits 35 = .ok (.iload 4, 2) := by decide +kernel
theorem dX8_blits_37 : decode cX8_blits 37 = .ok (.ifCond .ne 11, 3) := by decide +kernel
theorem dX8_blits_40 : decode cX8_blits 40 = .ok (.aload_n 0, 1) := by decide +kernel
theorem dX8_blits_41 : decode cX8_blits 41 = .ok (.iload_n 2, 1) := by decide +kernel
theorem dX8_blits_42 : decode cX8_blits 42 = .ok (.iload_n 3, 1) := by decide +kernel
theorem dX8_blits_43 : decode cX8_blits 43 = .ok (.invokevirtual 104, 3) := by decide +kernel
theorem dX8_blits_46 : decode cX8_blits 46 = .ok (.istore 4, 2) := by decide +kernel
theorem dX8_blits_48 : decode cX8_blits 48 = .ok (.iload 4, 2) := by decide +kernel
theorem dX8_blits_50 : decode cX8_blits 50 = .ok (.ifCond .eq 9, 3) := by decide +kernel
theorem dX8_blits_53 : decode cX8_blits 53 = .ok (.iload 4, 2) := by decide +kernel
theorem dX8_blits_55 : decode cX8_blits 55 = .ok (.invokestatic 92, 3) := by decide +kernel
theorem dX8_blits_58 : decode cX8_blits 58 = .ok (.ireturn, 1) := by decide +kernel
theorem dX8_blits_59 : decode cX8_blits 59 = .ok (.iconst 0, 1) := by decide +kernel
theorem dX8_blits_60 : decode cX8_blits 60 = .ok (.istore 5, 2) := by decide +kernel
theorem dX8_blits_62 : decode cX8_blits 62 = .ok (.iload 5, 2) := by decide +kernel
theorem dX8_blits_64 : decode cX8_blits 64 = .ok (.iload_n 3, 1) := by decide +kernel
theorem dX8_blits_65 : decode cX8_blits 65 = .ok (.if_icmp .ge 37, 3) := by decide +kernel
theorem dX8_blits_68 : decode cX8_blits 68 = .ok (.aload_n 0, 1) := by decide +kernel
theorem dX8_blits_69 : decode cX8_blits 69 = .ok (.getfield 28, 3) := by decide +kernel
theorem dX8_blits_72 : decode cX8_blits 72 = .ok (.iload 5, 2) := by decide +kernel
theorem dX8_blits_74 : decode cX8_blits 74 = .ok (.aload_n 0, 1) := by decide +kernel
theorem dX8_blits_75 : decode cX8_blits 75 = .ok (.getfield 7, 3) := by decide +kernel
theorem dX8_blits_78 : decode cX8_blits 78 = .ok (.aload_n 0, 1) := by decide +kernel
theorem dX8_blits_79 : decode cX8_blits 79 = .ok (.iload_n 2, 1) := by decide +kernel
theorem dX8_blits_80 : decode cX8_blits 80 = .ok (.invokevirtual 58, 3) := by decide +kernel
theorem dX8_blits_83 : decode cX8_blits 83 = .ok (.aload_n 0, 1) := by decide +kernel
theorem dX8_blits_84 : decode cX8_blits 84 = .ok (.iload_n 2, 1) := by decide +kernel
theorem dX8_blits_85 : decode cX8_blits 85 = .ok (.invokevirtual 65, 3) := by decide +kernel
theorem dX8_blits_88 : decode cX8_blits 88 = .ok (.iload 5, 2) := by decide +kernel
theorem dX8_blits_90 : decode cX8_blits 90 = .ok (.iadd, 1) := by decide +kernel
theorem dX8_blits_91 : decode cX8_blits 91 = .ok (.invokestatic 81, 3) := by decide +kernel
theorem dX8_blits_94 : decode cX8_blits 94 = .ok (.iaload, 1) := by decide +kernel
theorem dX8_blits_95 : decode cX8_blits 95 = .ok (.iastore, 1) := by decide +kernel
theorem dX8_blits_96 : decode cX8_blits 96 = .ok (.iinc 5 1, 3) := by decide +kernel
theorem dX8_blits_99 : decode cX8_blits 99 = .ok (.goto (-37), 3) := by decide +kernel
theorem dX8_blits_102 : decode cX8_blits 102 = .ok (.aload_n 0, 1) := by decide +kernel
theorem dX8_blits_103 : decode cX8_blits 103 = .ok (.getfield 28, 3) := by decide +kernel
theorem dX8_blits_106 : decode cX8_blits 106 = .ok (.iconst 0, 1) := by decide +kernel
theorem dX8_blits_107 : decode cX8_blits 107 = .ok (.iaload, 1) := by decide +kernel
theorem dX8_blits_108 : decode cX8_blits 108 = .ok (.sipush 999, 3) := by decide +kernel
theorem dX8_blits_111 : decode cX8_blits 111 = .ok (.if_icmp .eq 17, 3) := by decide +kernel
theorem dX8_blits_114 : decode cX8_blits 114 = .ok (.aload_n 0, 1) := by decide +kernel
theorem dX8_blits_115 : decode cX8_blits 115 = .ok (.getfield 28, 3) := by decide +kernel
theorem dX8_blits_118 : decode cX8_blits 118 = .ok (.iload_n 3, 1) := by decide +kernel
theorem dX8_blits_119 : decode cX8_blits 119 = .ok (.iconst 1, 1) := by decide +kernel
theorem dX8_blits_120 : decode cX8_blits 120 = .ok (.isub, 1) := by decide +kernel
theorem dX8_blits_121 : decode cX8_blits 121 = .ok (.iaload, 1) := by decide +kernel
theorem dX8_blits_122 : decode cX8_blits 122 = .ok (.sipush 1000, 3) := by decide +kernel
theorem dX8_blits_125 : decode cX8_blits 125 = .ok (.if_icmp .lt 9, 3) := by decide +kernel
theorem dX8_blits_128 : decode cX8_blits 128 = .ok (.bipush 6, 2) := by decide +kernel
theorem dX8_blits_130 : decode cX8_blits 130 = .ok (.invokestatic 92, 3) := by decide +kernel
theorem dX8_blits_133 : decode cX8_blits 133 = .ok (.ireturn, 1) := by decide +kernel
theorem dX8_blits_134 : decode cX8_blits 134 = .ok (.aload_n 0, 1) := by decide +kernel
theorem dX8_blits_135 : decode cX8_blits 135 = .ok (.aload_n 0, 1) := by decide +kernel
theorem dX8_blits_136 : decode cX8_blits 136 = .ok (.iload_n 1, 1) := by decide +kernel
theorem dX8_blits_137 : decode cX8_blits 137 = .ok (.invokevirtual 58, 3) := by decide +kernel
theorem dX8_blits_140 : decode cX8_blits 140 = .ok (.aload_n 0, 1) := by decide +kernel
theorem dX8_blits_141 : decode cX8_blits 141 = .ok (.iload_n 1, 1) := by decide +kernel
theorem dX8_blits_142 : decode cX8_blits 142 = .ok (.invokevirtual 65, 3) := by decide +kernel
theorem dX8_blits_145 : decode cX8_blits 145 = .ok (.iload_n 3, 1) := by decide +kernel
theorem dX8_blits_146 : decode cX8_blits 146 = .ok (.invokevirtual 100, 3) := by decide +kernel
theorem dX8_blits_149 : decode cX8_blits 149 = .ok (.iconst 0, 1) := by decide +kernel
theorem dX8_blits_150 : decode cX8_blits 150 = .ok (.istore 5, 2) := by decide +kernel
theorem dX8_blits_152 : decode cX8_blits 152 = .ok (.iload 5, 2) := by decide +kernel
theorem dX8_blits_154 : decode cX8_blits 154 = .ok (.iload_n 3, 1) := by decide +kernel
theorem dX8_blits_155 : decode cX8_blits 155 = .ok (.if_icmp .ge 37, 3) := by decide +kernel
theorem dX8_blits_158 : decode cX8_blits 158 = .ok (.aload_n 0, 1) := by decide +kernel
theorem dX8_blits_159 : decode cX8_blits 159 = .ok (.getfield 7, 3) := by decide +kernel
theorem dX8_blits_162 : decode cX8_blits 162 = .ok (.aload_n 0, 1) := by decide +kernel
theorem dX8_blits_163 : decode cX8_blits 163 = .ok (.iload_n 1, 1) := by decide +kernel
theorem dX8_blits_164 : decode cX8_blits 164 = .ok (.invokevirtual 58, 3) := by decide +kernel
theorem dX8_blits_167 : decode cX8_blits 167 = .ok (.aload_n 0, 1) := by decide +kernel
theorem dX8_blits_168 : decode cX8_blits 168 = .ok (.iload_n 1, 1) := by decide +kernel
theorem dX8_blits_169 : decode cX8_blits 169 = .ok (.invokevirtual 65, 3) := by decide +kernel
theorem dX8_blits_172 : decode cX8_blits 172 = .ok (.iload 5, 2) := by decide +kernel
theorem dX8_blits_174 : decode cX8_blits 174 = .ok (.iadd, 1) := by decide +kernel
theorem dX8_blits_175 : decode cX8_blits 175 = .ok (.invokestatic 81, 3) := by decide +kernel
theorem dX8_blits_178 : decode cX8_blits 178 = .ok (.aload_n 0, 1) := by decide +kernel
theorem dX8_blits_179 : decode cX8_blits 179 = .ok (.getfield 28, 3) := by decide +kernel
theorem dX8_blits_182 : decode cX8_blits 182 = .ok (.iload 5, 2) := by decide +kernel
theorem dX8_blits_184 : decode cX8_blits 184 = .ok (.iaload, 1) := by decide +kernel
theorem dX8_blits_185 : decode cX8_blits 185 = .ok (.iastore, 1) := by decide +kernel
theorem dX8_blits_186 : decode cX8_blits 186 = .ok (.iinc 5 1, 3) := by decide +kernel
theorem dX8_blits_189 : decode cX8_blits 189 = .ok (.goto (-37), 3) := by decide +kernel
theorem dX8_blits_192 : decode cX8_blits 192 = .ok (.iload_n 3, 1) := by decide +kernel
theorem dX8_blits_193 : decode cX8_blits 193 = .ok (.ireturn, 1) := by decide +kernel
theorem dX8_nodeOf_0 : decode cX8_nodeOf 0 = .ok (.iconst (-1), 1) := by decide +kernel
theorem dX8_nodeOf_1 : decode cX8_nodeOf 1 = .ok (.istore_n 2, 1) := by decide +kernel
theorem dX8_nodeOf_2 : decode cX8_nodeOf 2 = .ok (.iconst 0, 1) := by decide +kernel
theorem dX8_nodeOf_3 : decode cX8_nodeOf 3 = .ok (.istore_n 3, 1) := by decide +kernel
theorem dX8_nodeOf_4 : decode cX8_nodeOf 4 = .ok (.iload_n 3, 1) := by decide +kernel
theorem dX8_nodeOf_5 : decode cX8_nodeOf 5 = .ok (.aload_n 0, 1) := by decide +kernel
theorem dX8_nodeOf_6 : decode cX8_nodeOf 6 = .ok (.getfield 107, 3) := by decide +kernel
theorem dX8_nodeOf_9 : decode cX8_nodeOf 9 = .ok (.if_icmp .ge 25, 3) := by decide +kernel
theorem dX8_nodeOf_12 : decode cX8_nodeOf 12 = .ok (.aload_n 0, 1) := by decide +kernel
theorem dX8_nodeOf_13 : decode cX8_nodeOf 13 = .ok (.getfield 31, 3) := by decide +kernel
theorem dX8_nodeOf_16 : decode cX8_nodeOf 16 = .ok (.iload_n 3, 1) := by decide +kernel
theorem dX8_nodeOf_17 : decode cX8_nodeOf 17 = .ok (.iaload, 1) := by decide +kernel
theorem dX8_nodeOf_18 : decode cX8_nodeOf 18 = .ok (.iload_n 1, 1) := by decide +kernel
theorem dX8_nodeOf_19 : decode cX8_nodeOf 19 = .ok (.if_icmp .ne 7, 3) := by decide +kernel
theorem dX8_nodeOf_22 : decode cX8_nodeOf 22 = .ok (.iload_n 3, 1) := by decide +kernel
theorem dX8_nodeOf_23 : decode cX8_nodeOf 23 = .ok (.goto 4, 3) := by decide +kernel
theorem dX8_nodeOf_26 : decode cX8_nodeOf 26 = .ok (.iload_n 2, 1) := by decide +kernel
theorem dX8_nodeOf_27 : decode cX8_nodeOf 27 = .ok (.istore_n 2, 1) := by decide +kernel
theorem dX8_nodeOf_28 : decode cX8_nodeOf 28 = .ok (.iinc 3 1, 3) := by decide +kernel
theorem dX8_nodeOf_31 : decode cX8_nodeOf 31 = .ok (.goto (-27), 3) := by decide +kernel
theorem dX8_nodeOf_34 : decode cX8_nodeOf 34 = .ok (.iload_n 2, 1) := by decide +kernel
theorem dX8_nodeOf_35 : decode cX8_nodeOf 35 = .ok (.ireturn, 1) := by decide +kernel
theorem dX8_reaches_0 : decode cX8_reaches 0 = .ok (.aload_n 0, 1) := by decide +kernel
theorem dX8_reaches_1 : decode cX8_reaches 1 = .ok (.getfield 31, 3) := by decide +kernel
theorem dX8_reaches_4 : decode cX8_reaches 4 = .ok (.iconst 0, 1) := by decide +kernel
theorem dX8_reaches_5 : decode cX8_reaches 5 = .ok (.iload_n 1, 1) := by decide +kernel
theorem dX8_reaches_6 : decode cX8_reaches 6 = .ok (.iastore, 1) := by decide +kernel
theorem dX8_reaches_7 : decode cX8_reaches 7 = .ok (.aload_n 0, 1) := by decide +kernel
theorem dX8_reaches_8 : decode cX8_reaches 8 = .ok (.iconst 1, 1) := by decide +kernel
theorem dX8_reaches_9 : decode cX8_reaches 9 = .ok (.putfield 107, 3) := by decide +kernel
theorem dX8_reaches_12 : decode cX8_reaches 12 = .ok (.iconst 0, 1) := by decide +kernel
theorem dX8_reaches_13 : decode cX8_reaches 13 = .ok (.istore_n 2, 1) := by decide +kernel
theorem dX8_reaches_14 : decode cX8_reaches 14 = .ok (.iload_n 2, 1) := by decide +kernel
theorem dX8_reaches_15 : decode cX8_reaches 15 = .ok (.aload_n 0, 1) := by decide +kernel
theorem dX8_reaches_16 : decode cX8_reaches 16 = .ok (.getfield 107, 3) := by decide +kernel
theorem dX8_reaches_19 : decode cX8_reaches 19 = .ok (.if_icmp .ge 108, 3) := by decide +kernel
theorem dX8_reaches_22 : decode cX8_reaches 22 = .ok (.iconst 0, 1) := by decide +kernel
theorem dX8_reaches_23 : decode cX8_reaches 23 = .ok (.istore_n 3, 1) := by decide +kernel
theorem dX8_reaches_24 : decode cX8_reaches 24 = .ok (.iload_n 3, 1) := by decide +kernel
theorem dX8_reaches_25 : decode cX8_reaches 25 = .ok (.aload_n 0, 1) := by decide +kernel
theorem dX8_reaches_26 : decode cX8_reaches 26 = .ok (.aload_n 0, 1) := by decide +kernel
theorem dX8_reaches_27 : decode cX8_reaches 27 = .ok (.getfield 31, 3) := by decide +kernel
theorem dX8_reaches_30 : decode cX8_reaches 30 = .ok (.iload_n 2, 1) := by decide +kernel
theorem dX8_reaches_31 : decode cX8_reaches 31 = .ok (.iaload, 1) := by decide +kernel
theorem dX8_reaches_32 : decode cX8_reaches 32 = .ok (.invokevirtual 68, 3) := by decide +kernel
theorem dX8_reaches_35 : decode cX8_reaches 35 = .ok (.if_icmp .ge 86, 3) := by decide +kernel
theorem dX8_reaches_38 : decode cX8_reaches 38 = .ok (.aload_n 0, 1) := by decide +kernel
theorem dX8_reaches_39 : decode cX8_reaches 39 = .ok (.getfield 7, 3) := by decide +kernel
theorem dX8_reaches_42 : decode cX8_reaches 42 = .ok (.aload_n 0, 1) := by decide +kernel
theorem dX8_reaches_43 : decode cX8_reaches 43 = .ok (.getfield 31, 3) := by decide +kernel
theorem dX8_reaches_46 : decode cX8_reaches 46 = .ok (.iload_n 2, 1) := by decide +kernel
theorem dX8_reaches_47 : decode cX8_reaches 47 = .ok (.iaload, 1) := by decide +kernel
theorem dX8_reaches_48 : decode cX8_reaches 48 = .ok (.iload_n 3, 1) := by decide +kernel
theorem dX8_reaches_49 : decode cX8_reaches 49 = .ok (.invokestatic 81, 3) := by decide +kernel
theorem dX8_reaches_52 : decode cX8_reaches 52 = .ok (.iaload, 1) := by decide +kernel
theorem dX8_reaches_53 : decode cX8_reaches 53 = .ok (.istore 4, 2) := by decide +kernel
theorem dX8_reaches_55 : decode cX8_reaches 55 = .ok (.iload 4, 2) := by decide +kernel
theorem dX8_reaches_57 : decode cX8_reaches 57 = .ok (.sipush 1000, 3) := by decide +kernel
theorem dX8_reaches_60 : decode cX8_reaches 60 = .ok (.if_icmp .lt 15, 3) := by decide +kernel
theorem dX8_reaches_63 : decode cX8_reaches 63 = .ok (.iload 4, 2) := by decide +kernel
theorem dX8_reaches_65 : decode cX8_reaches 65 = .ok (.sipush 1000, 3) := by decide +kernel
theorem dX8_reaches_68 : decode cX8_reaches 68 = .ok (.isub, 1) := by decide +kernel
theorem dX8_reaches_69 : decode cX8_reaches 69 = .ok (.bipush 100, 2) := by decide +kernel
theorem dX8_reaches_71 : decode cX8_reaches 71 = .ok (.idiv, 1) := by decide +kernel
theorem dX8_reaches_72 : decode cX8_reaches 72 = .ok (.goto 4, 3) := by decide +kernel
theorem dX8_reaches_75 : decode cX8_reaches 75 = .ok (.iconst (-1), 1) := by decide +kernel
theorem dX8_reaches_76 : decode cX8_reaches 76 = .ok (.istore 5, 2) := by decide +kernel
theorem dX8_reaches_78 : decode cX8_reaches 78 = .ok (.iload 5, 2) := by decide +kernel
theorem dX8_reaches_80 : decode cX8_reaches 80 = .ok (.iconst (-1), 1) := by decide +kernel
theorem dX8_reaches_81 : decode cX8_reaches 81 = .ok (.if_icmp .eq 34, 3) := by decide +kernel
theorem dX8_reaches_84 : decode cX8_reaches 84 = .ok (.aload_n 0, 1) := by decide +kernel
theorem dX8_reaches_85 : decode cX8_reaches 85 = .ok (.iload 5, 2) := by decide +kernel
theorem dX8_reaches_87 : decode cX8_reaches 87 = .ok (.invokevirtual 110, 3) := by decide +kernel
theorem dX8_reaches_90 : decode cX8_reaches 90 = .ok (.iconst (-1), 1) := by decide +kernel
theorem dX8_reaches_91 : decode cX8_reaches 91 = .ok (.if_icmp .ne 24, 3) := by decide +kernel
theorem dX8_reaches_94 : decode cX8_reaches 94 = .ok (.aload_n 0, 1) := by decide +kernel
theorem dX8_reaches_95 : decode cX8_reaches 95 = .ok (.getfield 31, 3) := by decide +kernel
theorem dX8_reaches_98 : decode cX8_reaches 98 = .ok (.aload_n 0, 1) := by decide +kernel
theorem dX8_reaches_99 : decode cX8_reaches 99 = .ok (.getfield 107, 3) := by decide +kernel
theorem dX8_reaches_102 : decode cX8_reaches 102 = .ok (.iload 5, 2) := by decide +kernel
theorem dX8_reaches_104 : decode cX8_reaches 104 = .ok (.iastore, 1) := by decide +kernel
theorem dX8_reaches_105 : decode cX8_reaches 105 = .ok (.aload_n 0, 1) := by decide +kernel
theorem dX8_reaches_106 : decode cX8_reaches 106 = .ok (.dup, 1) := by decide +kernel
theorem dX8_reaches_107 : decode cX8_reaches 107 = .ok (.getfield 107, 3) := by decide +kernel
theorem dX8_reaches_110 : decode cX8_reaches 110 = .ok (.iconst 1, 1) := by decide +kernel
theorem dX8_reaches_111 : decode cX8_reaches 111 = .ok (.iadd, 1) := by decide +kernel
theorem dX8_reaches_112 : decode cX8_reaches 112 = .ok (.putfield 107, 3) := by decide +kernel
theorem dX8_reaches_115 : decode cX8_reaches 115 = .ok (.iinc 3 1, 3) := by decide +kernel
theorem dX8_reaches_118 : decode cX8_reaches 118 = .ok (.goto (-94), 3) := by decide +kernel
theorem dX8_reaches_121 : decode cX8_reaches 121 = .ok (.iinc 2 1, 3) := by decide +kernel
theorem dX8_reaches_124 : decode cX8_reaches 124 = .ok (.goto (-110), 3) := by decide +kernel
theorem dX8_reaches_127 : decode cX8_reaches 127 = .ok (.return_, 1) := by decide +kernel
theorem dX8_allLive_0 : decode cX8_allLive 0 = .ok (.iconst 1, 1) := by decide +kernel
theorem dX8_allLive_1 : decode cX8_allLive 1 = .ok (.istore_n 1, 1) := by decide +kernel
theorem dX8_allLive_2 : decode cX8_allLive 2 = .ok (.iconst 0, 1) := by decide +kernel
theorem dX8_allLive_3 : decode cX8_allLive 3 = .ok (.istore_n 2, 1) := by decide +kernel
theorem dX8_allLive_4 : decode cX8_allLive 4 = .ok (.iload_n 2, 1) := by decide +kernel
theorem dX8_allLive_5 : decode cX8_allLive 5 = .ok (.aload_n 0, 1) := by decide +kernel
theorem dX8_allLive_6 : decode cX8_allLive 6 = .ok (.getfield 107, 3) := by decide +kernel
theorem dX8_allLive_9 : decode cX8_allLive 9 = .ok (.if_icmp .ge 32, 3) := by decide +kernel
theorem dX8_allLive_12 : decode cX8_allLive 12 = .ok (.iload_n 1, 1) := by decide +kernel
theorem dX8_allLive_13 : decode cX8_allLive 13 = .ok (.ifCond .eq 20, 3) := by decide +kernel
theorem dX8_allLive_16 : decode cX8_allLive 16 = .ok (.aload_n 0, 1) := by decide +kernel
theorem dX8_allLive_17 : decode cX8_allLive 17 = .ok (.aload_n 0, 1) := by decide +kernel
theorem dX8_allLive_18 : decode cX8_allLive 18 = .ok (.getfield 31, 3) := by decide +kernel
theorem dX8_allLive_21 : decode cX8_allLive 21 = .ok (.iload_n 2, 1) := by decide +kernel
theorem dX8_allLive_22 : decode cX8_allLive 22 = .ok (.iaload, 1) := by decide +kernel
theorem dX8_allLive_23 : decode cX8_allLive 23 = .ok (.invokevirtual 61, 3) := by decide +kernel
theorem dX8_allLive_26 : decode cX8_allLive 26 = .ok (.ifCond .eq 7, 3) := by decide +kernel
theorem dX8_allLive_29 : decode cX8_allLive 29 = .ok (.iconst 1, 1) := by decide +kernel
theorem dX8_allLive_30 : decode cX8_allLive 30 = .ok (.goto 4, 3) := by decide +kernel
theorem dX8_allLive_33 : decode cX8_allLive 33 = .ok (.iconst 0, 1) := by decide +kernel
theorem dX8_allLive_34 : decode cX8_allLive 34 = .ok (.istore_n 1, 1) := by decide +kernel
theorem dX8_allLive_35 : decode cX8_allLive 35 = .ok (.iinc 2 1, 3) := by decide +kernel
theorem dX8_allLive_38 : decode cX8_allLive 38 = .ok (.goto (-34), 3) := by decide +kernel
theorem dX8_allLive_41 : decode cX8_allLive 41 = .ok (.iload_n 1, 1) := by decide +kernel
theorem dX8_allLive_42 : decode cX8_allLive 42 = .ok (.ireturn, 1) := by decide +kernel
theorem dX8_laysImage_0 : decode cX8_laysImage 0 = .ok (.iconst 0, 1) := by decide +kernel
theorem dX8_laysImage_1 : decode cX8_laysImage 1 = .ok (.istore_n 1, 1) := by decide +kernel
theorem dX8_laysImage_2 : decode cX8_laysImage 2 = .ok (.iload_n 1, 1) := by decide +kernel
theorem dX8_laysImage_3 : decode cX8_laysImage 3 = .ok (.sipush 131, 3) := by decide +kernel
theorem dX8_laysImage_6 : decode cX8_laysImage 6 = .ok (.if_icmp .ge 16, 3) := by decide +kernel
theorem dX8_laysImage_9 : decode cX8_laysImage 9 = .ok (.aload_n 0, 1) := by decide +kernel
theorem dX8_laysImage_10 : decode cX8_laysImage 10 = .ok (.getfield 34, 3) := by decide +kernel
theorem dX8_laysImage_13 : decode cX8_laysImage 13 = .ok (.iload_n 1, 1) := by decide +kernel
theorem dX8_laysImage_14 : decode cX8_laysImage 14 = .ok (.iconst 0, 1) := by decide +kernel
theorem dX8_laysImage_15 : decode cX8_laysImage 15 = .ok (.iastore, 1) := by decide +kernel
theorem dX8_laysImage_16 : decode cX8_laysImage 16 = .ok (.iinc 1 1, 3) := by decide +kernel
theorem dX8_laysImage_19 : decode cX8_laysImage 19 = .ok (.goto (-17), 3) := by decide +kernel
theorem dX8_laysImage_22 : decode cX8_laysImage 22 = .ok (.aload_n 0, 1) := by decide +kernel
theorem dX8_laysImage_23 : decode cX8_laysImage 23 = .ok (.getfield 34, 3) := by decide +kernel
theorem dX8_laysImage_26 : decode cX8_laysImage 26 = .ok (.iconst 0, 1) := by decide +kernel
theorem dX8_laysImage_27 : decode cX8_laysImage 27 = .ok (.aload_n 0, 1) := by decide +kernel
theorem dX8_laysImage_28 : decode cX8_laysImage 28 = .ok (.getfield 107, 3) := by decide +kernel
theorem dX8_laysImage_31 : decode cX8_laysImage 31 = .ok (.iastore, 1) := by decide +kernel
theorem dX8_laysImage_32 : decode cX8_laysImage 32 = .ok (.iconst 0, 1) := by decide +kernel
theorem dX8_laysImage_33 : decode cX8_laysImage 33 = .ok (.istore_n 1, 1) := by decide +kernel
theorem dX8_laysImage_34 : decode cX8_laysImage 34 = .ok (.iload_n 1, 1) := by decide +kernel
theorem dX8_laysImage_35 : decode cX8_laysImage 35 = .ok (.aload_n 0, 1) := by decide +kernel
theorem dX8_laysImage_36 : decode cX8_laysImage 36 = .ok (.getfield 107, 3) := by decide +kernel
theorem dX8_laysImage_39 : decode cX8_laysImage 39 = .ok (.if_icmp .ge 116, 3) := by decide +kernel
theorem dX8_laysImage_42 : decode cX8_laysImage 42 = .ok (.aload_n 0, 1) := by decide +kernel
theorem dX8_laysImage_43 : decode cX8_laysImage 43 = .ok (.getfield 34, 3) := by decide +kernel
theorem dX8_laysImage_46 : decode cX8_laysImage 46 = .ok (.iconst 1, 1) := by decide +kernel
theorem dX8_laysImage_47 : decode cX8_laysImage 47 = .ok (.iload_n 1, 1) := by decide +kernel
theorem dX8_laysImage_48 : decode cX8_laysImage 48 = .ok (.iadd, 1) := by decide +kernel
theorem dX8_laysImage_49 : decode cX8_laysImage 49 = .ok (.aload_n 0, 1) := by decide +kernel
theorem dX8_laysImage_50 : decode cX8_laysImage 50 = .ok (.aload_n 0, 1) := by decide +kernel
theorem dX8_laysImage_51 : decode cX8_laysImage 51 = .ok (.getfield 31, 3) := by decide +kernel
theorem dX8_laysImage_54 : decode cX8_laysImage 54 = .ok (.iload_n 1, 1) := by decide +kernel
theorem dX8_laysImage_55 : decode cX8_laysImage 55 = .ok (.iaload, 1) := by decide +kernel
theorem dX8_laysImage_56 : decode cX8_laysImage 56 = .ok (.invokevirtual 68, 3) := by decide +kernel
theorem dX8_laysImage_59 : decode cX8_laysImage 59 = .ok (.iastore, 1) := by decide +kernel
theorem dX8_laysImage_60 : decode cX8_laysImage 60 = .ok (.iconst 0, 1) := by decide +kernel
theorem dX8_laysImage_61 : decode cX8_laysImage 61 = .ok (.istore_n 2, 1) := by decide +kernel
theorem dX8_laysImage_62 : decode cX8_laysImage 62 = .ok (.iload_n 2, 1) := by decide +kernel
theorem dX8_laysImage_63 : decode cX8_laysImage 63 = .ok (.aload_n 0, 1) := by decide +kernel
theorem dX8_laysImage_64 : decode cX8_laysImage 64 = .ok (.getfield 34, 3) := by decide +kernel
theorem dX8_laysImage_67 : decode cX8_laysImage 67 = .ok (.iconst 1, 1) := by decide +kernel
theorem dX8_laysImage_68 : decode cX8_laysImage 68 = .ok (.iload_n 1, 1) := by decide +kernel
theorem dX8_laysImage_69 : decode cX8_laysImage 69 = .ok (.iadd, 1) := by decide +kernel
theorem dX8_laysImage_70 : decode cX8_laysImage 70 = .ok (.iaload, 1) := by decide +kernel
theorem dX8_laysImage_71 : decode cX8_laysImage 71 = .ok (.if_icmp .ge 78, 3) := by decide +kernel
theorem dX8_laysImage_74 : decode cX8_laysImage 74 = .ok (.aload_n 0, 1) := by decide +kernel
theorem dX8_laysImage_75 : decode cX8_laysImage 75 = .ok (.getfield 7, 3) := by decide +kernel
theorem dX8_laysImage_78 : decode cX8_laysImage 78 = .ok (.aload_n 0, 1) := by decide +kernel
theorem dX8_laysImage_79 : decode cX8_laysImage 79 = .ok (.getfield 31, 3) := by decide +kernel
theorem dX8_laysImage_82 : decode cX8_laysImage 82 = .ok (.iload_n 1, 1) := by decide +kernel
theorem dX8_laysImage_83 : decode cX8_laysImage 83 = .ok (.iaload, 1) := by decide +kernel
theorem dX8_laysImage_84 : decode cX8_laysImage 84 = .ok (.iload_n 2, 1) := by decide +kernel
theorem dX8_laysImage_85 : decode cX8_laysImage 85 = .ok (.invokestatic 81, 3) := by decide +kernel
theorem dX8_laysImage_88 : decode cX8_laysImage 88 = .ok (.iaload, 1) := by decide +kernel
theorem dX8_laysImage_89 : decode cX8_laysImage 89 = .ok (.istore_n 3, 1) := by decide +kernel
theorem dX8_laysImage_90 : decode cX8_laysImage 90 = .ok (.aload_n 0, 1) := by decide +kernel
theorem dX8_laysImage_91 : decode cX8_laysImage 91 = .ok (.getfield 34, 3) := by decide +kernel
theorem dX8_laysImage_94 : decode cX8_laysImage 94 = .ok (.bipush 11, 2) := by decide +kernel
theorem dX8_laysImage_96 : decode cX8_laysImage 96 = .ok (.bipush 12, 2) := by decide +kernel
theorem dX8_laysImage_98 : decode cX8_laysImage 98 = .ok (.iload_n 1, 1) := by decide +kernel
theorem dX8_laysImage_99 : decode cX8_laysImage 99 = .ok (.imul, 1) := by decide +kernel
theorem dX8_laysImage_100 : decode cX8_laysImage 100 = .ok (.iadd, 1) := by decide +kernel
theorem dX8_laysImage_101 : decode cX8_laysImage 101 = .ok (.iload_n 2, 1) := by decide +kernel
theorem dX8_laysImage_102 : decode cX8_laysImage 102 = .ok (.iadd, 1) := by decide +kernel
theorem dX8_laysImage_103 : decode cX8_laysImage 103 = .ok (.iload_n 3, 1) := by decide +kernel
theorem dX8_laysImage_104 : decode cX8_laysImage 104 = .ok (.sipush 1000, 3) := by decide +kernel
theorem dX8_laysImage_107 : decode cX8_laysImage 107 = .ok (.if_icmp .lt 34, 3) := by decide +kernel
theorem dX8_laysImage_110 : decode cX8_laysImage 110 = .ok (.sipush 1000, 3) := by decide +kernel
theorem dX8_laysImage_113 : decode cX8_laysImage 113 = .ok (.bipush 100, 2) := by decide +kernel
theorem dX8_laysImage_115 : decode cX8_laysImage 115 = .ok (.aload_n 0, 1) := by decide +kernel
theorem dX8_laysImage_116 : decode cX8_laysImage 116 = .ok (.iload_n 3, 1) := by decide +kernel
theorem dX8_laysImage_117 : decode cX8_laysImage 117 = .ok (.sipush 1000, 3) := by decide +kernel
theorem dX8_laysImage_120 : decode cX8_laysImage 120 = .ok (.isub, 1) := by decide +kernel
theorem dX8_laysImage_121 : decode cX8_laysImage 121 = .ok (.bipush 100, 2) := by decide +kernel
theorem dX8_laysImage_123 : decode cX8_laysImage 123 = .ok (.idiv, 1) := by decide +kernel
theorem dX8_laysImage_124 : decode cX8_laysImage 124 = .ok (.invokevirtual 110, 3) := by decide +kernel
theorem dX8_laysImage_127 : decode cX8_laysImage 127 = .ok (.imul, 1) := by decide +kernel
theorem dX8_laysImage_128 : decode cX8_laysImage 128 = .ok (.iadd, 1) := by decide +kernel
theorem dX8_laysImage_129 : decode cX8_laysImage 129 = .ok (.iload_n 3, 1) := by decide +kernel
theorem dX8_laysImage_130 : decode cX8_laysImage 130 = .ok (.sipush 1000, 3) := by decide +kernel
theorem dX8_laysImage_133 : decode cX8_laysImage 133 = .ok (.isub, 1) := by decide +kernel
theorem dX8_laysImage_134 : decode cX8_laysImage 134 = .ok (.bipush 100, 2) := by decide +kernel
theorem dX8_laysImage_136 : decode cX8_laysImage 136 = .ok (.irem, 1) := by decide +kernel
theorem dX8_laysImage_137 : decode cX8_laysImage 137 = .ok (.iadd, 1) := by decide +kernel
theorem dX8_laysImage_138 : decode cX8_laysImage 138 = .ok (.goto 4, 3) := by decide +kernel
theorem dX8_laysImage_141 : decode cX8_laysImage 141 = .ok (.iload_n 3, 1) := by decide +kernel
theorem dX8_laysImage_142 : decode cX8_laysImage 142 = .ok (.iastore, 1) := by decide +kernel
theorem dX8_laysImage_143 : decode cX8_laysImage 143 = .ok (.iinc 2 1, 3) := by decide +kernel
theorem dX8_laysImage_146 : decode cX8_laysImage 146 = .ok (.goto (-84), 3) := by decide +kernel
theorem dX8_laysImage_149 : decode cX8_laysImage 149 = .ok (.iinc 1 1, 3) := by decide +kernel
theorem dX8_laysImage_152 : decode cX8_laysImage 152 = .ok (.goto (-118), 3) := by decide +kernel
theorem dX8_laysImage_155 : decode cX8_laysImage 155 = .ok (.return_, 1) := by decide +kernel
theorem dX8_imageLaid_0 : decode cX8_imageLaid 0 = .ok (.iconst 0, 1) := by decide +kernel
theorem dX8_imageLaid_1 : decode cX8_imageLaid 1 = .ok (.istore_n 1, 1) := by decide +kernel
theorem dX8_imageLaid_2 : decode cX8_imageLaid 2 = .ok (.iload_n 1, 1) := by decide +kernel
theorem dX8_imageLaid_3 : decode cX8_imageLaid 3 = .ok (.aload_n 0, 1) := by decide +kernel
theorem dX8_imageLaid_4 : decode cX8_imageLaid 4 = .ok (.getfield 7, 3) := by decide +kernel
theorem dX8_imageLaid_7 : decode cX8_imageLaid 7 = .ok (.sipush 170, 3) := by decide +kernel
theorem dX8_imageLaid_10 : decode cX8_imageLaid 10 = .ok (.iaload, 1) := by decide +kernel
theorem dX8_imageLaid_11 : decode cX8_imageLaid 11 = .ok (.if_icmp .ge 67, 3) := by decide +kernel
theorem dX8_imageLaid_14 : decode cX8_imageLaid 14 = .ok (.iconst 1, 1) := by decide +kernel
theorem dX8_imageLaid_15 : decode cX8_imageLaid 15 = .ok (.istore_n 2, 1) := by decide +kernel
theorem dX8_imageLaid_16 : decode cX8_imageLaid 16 = .ok (.iconst 0, 1) := by decide +kernel
theorem dX8_imageLaid_17 : decode cX8_imageLaid 17 = .ok (.istore_n 3, 1) := by decide +kernel
theorem dX8_imageLaid_18 : decode cX8_imageLaid 18 = .ok (.iload_n 3, 1) := by decide +kernel
theorem dX8_imageLaid_19 : decode cX8_imageLaid 19 = .ok (.sipush 131, 3) := by decide +kernel
theorem dX8_imageLaid_22 : decode cX8_imageLaid 22 = .ok (.if_icmp .ge 44, 3) := by decide +kernel
theorem dX8_imageLaid_25 : decode cX8_imageLaid 25 = .ok (.iload_n 2, 1) := by decide +kernel
theorem dX8_imageLaid_26 : decode cX8_imageLaid 26 = .ok (.ifCond .eq 40, 3) := by decide +kernel
theorem dX8_imageLaid_29 : decode cX8_imageLaid 29 = .ok (.aload_n 0, 1) := by decide +kernel
theorem dX8_imageLaid_30 : decode cX8_imageLaid 30 = .ok (.getfield 7, 3) := by decide +kernel
theorem dX8_imageLaid_33 : decode cX8_imageLaid 33 = .ok (.sipush 171, 3) := by decide +kernel
theorem dX8_imageLaid_36 : decode cX8_imageLaid 36 = .ok (.sipush 131, 3) := by decide +kernel
theorem dX8_imageLaid_39 : decode cX8_imageLaid 39 = .ok (.iload_n 1, 1) := by decide +kernel
theorem dX8_imageLaid_40 : decode cX8_imageLaid 40 = .ok (.imul, 1) := by decide +kernel
theorem dX8_imageLaid_41 : decode cX8_imageLaid 41 = .ok (.iadd, 1) := by decide +kernel
theorem dX8_imageLaid_42 : decode cX8_imageLaid 42 = .ok (.iload_n 3, 1) := by decide +kernel
theorem dX8_imageLaid_43 : decode cX8_imageLaid 43 = .ok (.iadd, 1) := by decide +kernel
theorem dX8_imageLaid_44 : decode cX8_imageLaid 44 = .ok (.iaload, 1) := by decide +kernel
theorem dX8_imageLaid_45 : decode cX8_imageLaid 45 = .ok (.aload_n 0, 1) := by decide +kernel
theorem dX8_imageLaid_46 : decode cX8_imageLaid 46 = .ok (.getfield 34, 3) := by decide +kernel
theorem dX8_imageLaid_49 : decode cX8_imageLaid 49 = .ok (.iload_n 3, 1) := by decide +kernel
theorem dX8_imageLaid_50 : decode cX8_imageLaid 50 = .ok (.iaload, 1) := by decide +kernel
theorem dX8_imageLaid_51 : decode cX8_imageLaid 51 = .ok (.if_icmp .ne 7, 3) := by decide +kernel
theorem dX8_imageLaid_54 : decode cX8_imageLaid 54 = .ok (.iconst 1, 1) := by decide +kernel
theorem dX8_imageLaid_55 : decode cX8_imageLaid 55 = .ok (.goto 4, 3) := by decide +kernel
theorem dX8_imageLaid_58 : decode cX8_imageLaid 58 = .ok (.iconst 0, 1) := by decide +kernel
theorem dX8_imageLaid_59 : decode cX8_imageLaid 59 = .ok (.istore_n 2, 1) := by decide +kernel
theorem dX8_imageLaid_60 : decode cX8_imageLaid 60 = .ok (.iinc 3 1, 3) := by decide +kernel
theorem dX8_imageLaid_63 : decode cX8_imageLaid 63 = .ok (.goto (-45), 3) := by decide +kernel
theorem dX8_imageLaid_66 : decode cX8_imageLaid 66 = .ok (.iload_n 2, 1) := by decide +kernel
theorem dX8_imageLaid_67 : decode cX8_imageLaid 67 = .ok (.ifCond .eq 5, 3) := by decide +kernel
theorem dX8_imageLaid_70 : decode cX8_imageLaid 70 = .ok (.iload_n 1, 1) := by decide +kernel
theorem dX8_imageLaid_71 : decode cX8_imageLaid 71 = .ok (.ireturn, 1) := by decide +kernel
theorem dX8_imageLaid_72 : decode cX8_imageLaid 72 = .ok (.iinc 1 1, 3) := by decide +kernel
theorem dX8_imageLaid_75 : decode cX8_imageLaid 75 = .ok (.goto (-73), 3) := by decide +kernel
theorem dX8_imageLaid_78 : decode cX8_imageLaid 78 = .ok (.iconst (-1), 1) := by decide +kernel
theorem dX8_imageLaid_79 : decode cX8_imageLaid 79 = .ok (.ireturn, 1) := by decide +kernel
theorem dX8_freezes_0 : decode cX8_freezes 0 = .ok (.iload_n 1, 1) := by decide +kernel
theorem dX8_freezes_1 : decode cX8_freezes 1 = .ok (.invokestatic 85, 3) := by decide +kernel
theorem dX8_freezes_4 : decode cX8_freezes 4 = .ok (.ifCond .ne 6, 3) := by decide +kernel
theorem dX8_freezes_7 : decode cX8_freezes 7 = .ok (.bipush (-2), 2) := by decide +kernel
theorem dX8_freezes_9 : decode cX8_freezes 9 = .ok (.ireturn, 1) := by decide +kernel
theorem dX8_freezes_10 : decode cX8_freezes 10 = .ok (.aload_n 0, 1) := by decide +kernel
theorem dX8_freezes_11 : decode cX8_freezes 11 = .ok (.iload_n 1, 1) := by decide +kernel
theorem dX8_freezes_12 : decode cX8_freezes 12 = .ok (.invokevirtual 71, 3) := by decide +kernel
theorem dX8_freezes_15 : decode cX8_freezes 15 = .ok (.istore_n 2, 1) := by decide +kernel
theorem dX8_freezes_16 : decode cX8_freezes 16 = .ok (.iload_n 2, 1) := by decide +kernel
theorem dX8_freezes_17 : decode cX8_freezes 17 = .ok (.ifCond .ne 14, 3) := by decide +kernel
theorem dX8_freezes_20 : decode cX8_freezes 20 = .ok (.aload_n 0, 1) := by decide +kernel
theorem dX8_freezes_21 : decode cX8_freezes 21 = .ok (.iload_n 1, 1) := by decide +kernel
theorem dX8_freezes_22 : decode cX8_freezes 22 = .ok (.invokevirtual 65, 3) := by decide +kernel
theorem dX8_freezes_25 : decode cX8_freezes 25 = .ok (.ifCond .eq 6, 3) := by decide +kernel
theorem dX8_freezes_28 : decode cX8_freezes 28 = .ok (.bipush 9, 2) := by decide +kernel
theorem dX8_freezes_30 : decode cX8_freezes 30 = .ok (.istore_n 2, 1) := by decide +kernel
theorem dX8_freezes_31 : decode cX8_freezes 31 = .ok (.iload_n 2, 1) := by decide +kernel
theorem dX8_freezes_32 : decode cX8_freezes 32 = .ok (.ifCond .ne 25, 3) := by decide +kernel
theorem dX8_freezes_35 : decode cX8_freezes 35 = .ok (.aload_n 0, 1) := by decide +kernel
theorem dX8_freezes_36 : decode cX8_freezes 36 = .ok (.aload_n 0, 1) := by decide +kernel
theorem dX8_freezes_37 : decode cX8_freezes 37 = .ok (.iload_n 1, 1) := by decide +kernel
theorem dX8_freezes_38 : decode cX8_freezes 38 = .ok (.invokevirtual 58, 3) := by decide +kernel
theorem dX8_freezes_41 : decode cX8_freezes 41 = .ok (.invokevirtual 113, 3) := by decide +kernel
theorem dX8_freezes_44 : decode cX8_freezes 44 = .ok (.aload_n 0, 1) := by decide +kernel
theorem dX8_freezes_45 : decode cX8_freezes 45 = .ok (.invokevirtual 117, 3) := by decide +kernel
theorem dX8_freezes_48 : decode cX8_freezes 48 = .ok (.ifCond .eq 7, 3) := by decide +kernel
theorem dX8_freezes_51 : decode cX8_freezes 51 = .ok (.iconst 0, 1) := by decide +kernel
theorem dX8_freezes_52 : decode cX8_freezes 52 = .ok (.goto 4, 3) := by decide +kernel
theorem dX8_freezes_55 : decode cX8_freezes 55 = .ok (.iconst 3, 1) := by decide +kernel
theorem dX8_freezes_56 : decode cX8_freezes 56 = .ok (.istore_n 2, 1) := by decide +kernel
theorem dX8_freezes_57 : decode cX8_freezes 57 = .ok (.iload_n 2, 1) := by decide +kernel
theorem dX8_freezes_58 : decode cX8_freezes 58 = .ok (.ifCond .eq 8, 3) := by decide +kernel
theorem dX8_freezes_61 : decode cX8_freezes 61 = .ok (.iload_n 2, 1) := by decide +kernel
theorem dX8_freezes_62 : decode cX8_freezes 62 = .ok (.invokestatic 92, 3) := by decide +kernel
theorem dX8_freezes_65 : decode cX8_freezes 65 = .ok (.ireturn, 1) := by decide +kernel
theorem dX8_freezes_66 : decode cX8_freezes 66 = .ok (.aload_n 0, 1) := by decide +kernel
theorem dX8_freezes_67 : decode cX8_freezes 67 = .ok (.invokevirtual 121, 3) := by decide +kernel
theorem dX8_freezes_70 : decode cX8_freezes 70 = .ok (.aload_n 0, 1) := by decide +kernel
theorem dX8_freezes_71 : decode cX8_freezes 71 = .ok (.invokevirtual 124, 3) := by decide +kernel
theorem dX8_freezes_74 : decode cX8_freezes 74 = .ok (.istore_n 3, 1) := by decide +kernel
theorem dX8_freezes_75 : decode cX8_freezes 75 = .ok (.iload_n 3, 1) := by decide +kernel
theorem dX8_freezes_76 : decode cX8_freezes 76 = .ok (.iconst (-1), 1) := by decide +kernel
theorem dX8_freezes_77 : decode cX8_freezes 77 = .ok (.if_icmp .ne 74, 3) := by decide +kernel
theorem dX8_freezes_80 : decode cX8_freezes 80 = .ok (.aload_n 0, 1) := by decide +kernel
theorem dX8_freezes_81 : decode cX8_freezes 81 = .ok (.getfield 7, 3) := by decide +kernel
theorem dX8_freezes_84 : decode cX8_freezes 84 = .ok (.sipush 170, 3) := by decide +kernel
theorem dX8_freezes_87 : decode cX8_freezes 87 = .ok (.iaload, 1) := by decide +kernel
theorem dX8_freezes_88 : decode cX8_freezes 88 = .ok (.istore_n 3, 1) := by decide +kernel
theorem dX8_freezes_89 : decode cX8_freezes 89 = .ok (.iload_n 3, 1) := by decide +kernel
theorem dX8_freezes_90 : decode cX8_freezes 90 = .ok (.bipush 8, 2) := by decide +kernel
theorem dX8_freezes_92 : decode cX8_freezes 92 = .ok (.if_icmp .ne 6, 3) := by decide +kernel
theorem dX8_freezes_95 : decode cX8_freezes 95 = .ok (.bipush (-4), 2) := by decide +kernel
theorem dX8_freezes_97 : decode cX8_freezes 97 = .ok (.ireturn, 1) := by decide +kernel
theorem dX8_freezes_98 : decode cX8_freezes 98 = .ok (.iconst 0, 1) := by decide +kernel
theorem dX8_freezes_99 : decode cX8_freezes 99 = .ok (.istore 4, 2) := by decide +kernel
theorem dX8_freezes_101 : decode cX8_freezes 101 = .ok (.iload 4, 2) := by decide +kernel
theorem dX8_freezes_103 : decode cX8_freezes 103 = .ok (.sipush 131, 3) := by decide +kernel
theorem dX8_freezes_106 : decode cX8_freezes 106 = .ok (.if_icmp .ge 33, 3) := by decide +kernel
theorem dX8_freezes_109 : decode cX8_freezes 109 = .ok (.aload_n 0, 1) := by decide +kernel
theorem dX8_freezes_110 : decode cX8_freezes 110 = .ok (.getfield 7, 3) := by decide +kernel
theorem dX8_freezes_113 : decode cX8_freezes 113 = .ok (.sipush 171, 3) := by decide +kernel
theorem dX8_freezes_116 : decode cX8_freezes 116 = .ok (.sipush 131, 3) := by decide +kernel
theorem dX8_freezes_119 : decode cX8_freezes 119 = .ok (.iload_n 3, 1) := by decide +kernel
theorem dX8_freezes_120 : decode cX8_freezes 120 = .ok (.imul, 1) := by decide +kernel
theorem dX8_freezes_121 : decode cX8_freezes 121 = .ok (.iadd, 1) := by decide +kernel
theorem dX8_freezes_122 : decode cX8_freezes 122 = .ok (.iload 4, 2) := by decide +kernel
theorem dX8_freezes_124 : decode cX8_freezes 124 = .ok (.iadd, 1) := by decide +kernel
theorem dX8_freezes_125 : decode cX8_freezes 125 = .ok (.aload_n 0, 1) := by decide +kernel
theorem dX8_freezes_126 : decode cX8_freezes 126 = .ok (.getfield 34, 3) := by decide +kernel
theorem dX8_freezes_129 : decode cX8_freezes 129 = .ok (.iload 4, 2) := by decide +kernel
theorem dX8_freezes_131 : decode cX8_freezes 131 = .ok (.iaload, 1) := by decide +kernel
theorem dX8_freezes_132 : decode cX8_freezes 132 = .ok (.iastore, 1) := by decide +kernel
theorem dX8_freezes_133 : decode cX8_freezes 133 = .ok (.iinc 4 1, 3) := by decide +kernel
theorem dX8_freezes_136 : decode cX8_freezes 136 = .ok (.goto (-35), 3) := by decide +kernel
theorem dX8_freezes_139 : decode cX8_freezes 139 = .ok (.aload_n 0, 1) := by decide +kernel
theorem dX8_freezes_140 : decode cX8_freezes 140 = .ok (.getfield 7, 3) := by decide +kernel
theorem dX8_freezes_143 : decode cX8_freezes 143 = .ok (.sipush 170, 3) := by decide +kernel
theorem dX8_freezes_146 : decode cX8_freezes 146 = .ok (.dup2, 1) := by decide +kernel
theorem dX8_freezes_147 : decode cX8_freezes 147 = .ok (.iaload, 1) := by decide +kernel
theorem dX8_freezes_148 : decode cX8_freezes 148 = .ok (.iconst 1, 1) := by decide +kernel
theorem dX8_freezes_149 : decode cX8_freezes 149 = .ok (.iadd, 1) := by decide +kernel
theorem dX8_freezes_150 : decode cX8_freezes 150 = .ok (.iastore, 1) := by decide +kernel
theorem dX8_freezes_151 : decode cX8_freezes 151 = .ok (.iconst 0, 1) := by decide +kernel
theorem dX8_freezes_152 : decode cX8_freezes 152 = .ok (.istore 4, 2) := by decide +kernel
theorem dX8_freezes_154 : decode cX8_freezes 154 = .ok (.iload 4, 2) := by decide +kernel
theorem dX8_freezes_156 : decode cX8_freezes 156 = .ok (.aload_n 0, 1) := by decide +kernel
theorem dX8_freezes_157 : decode cX8_freezes 157 = .ok (.getfield 107, 3) := by decide +kernel
theorem dX8_freezes_160 : decode cX8_freezes 160 = .ok (.if_icmp .ge 27, 3) := by decide +kernel
theorem dX8_freezes_163 : decode cX8_freezes 163 = .ok (.aload_n 0, 1) := by decide +kernel
theorem dX8_freezes_164 : decode cX8_freezes 164 = .ok (.getfield 7, 3) := by decide +kernel
theorem dX8_freezes_167 : decode cX8_freezes 167 = .ok (.aload_n 0, 1) := by decide +kernel
theorem dX8_freezes_168 : decode cX8_freezes 168 = .ok (.getfield 31, 3) := by decide +kernel
theorem dX8_freezes_171 : decode cX8_freezes 171 = .ok (.iload 4, 2) := by decide +kernel
theorem dX8_freezes_173 : decode cX8_freezes 173 = .ok (.iaload, 1) := by decide +kernel
theorem dX8_freezes_174 : decode cX8_freezes 174 = .ok (.invokestatic 47, 3) := by decide +kernel
theorem dX8_freezes_177 : decode cX8_freezes 177 = .ok (.iconst 2, 1) := by decide +kernel
theorem dX8_freezes_178 : decode cX8_freezes 178 = .ok (.iadd, 1) := by decide +kernel
theorem dX8_freezes_179 : decode cX8_freezes 179 = .ok (.iconst 1, 1) := by decide +kernel
theorem dX8_freezes_180 : decode cX8_freezes 180 = .ok (.iastore, 1) := by decide +kernel
theorem dX8_freezes_181 : decode cX8_freezes 181 = .ok (.iinc 4 1, 3) := by decide +kernel
theorem dX8_freezes_184 : decode cX8_freezes 184 = .ok (.goto (-30), 3) := by decide +kernel
theorem dX8_freezes_187 : decode cX8_freezes 187 = .ok (.iload_n 3, 1) := by decide +kernel
theorem dX8_freezes_188 : decode cX8_freezes 188 = .ok (.ireturn, 1) := by decide +kernel
theorem dX8_acts_0 : decode cX8_acts 0 = .ok (.iload_n 1, 1) := by decide +kernel
theorem dX8_acts_1 : decode cX8_acts 1 = .ok (.tableswitch 164 98 119 #[155, 123, 164, 110, 164, 164, 164, 164, 164, 164, 146, 103, 164, 164, 164, 164, 164, 116, 164, 164, 130, 137], 103) := by decide +kernel
theorem dX8_acts_104 : decode cX8_acts 104 = .ok (.aload_n 0, 1) := by decide +kernel
theorem dX8_acts_105 : decode cX8_acts 105 = .ok (.iload_n 2, 1) := by decide +kernel
theorem dX8_acts_106 : decode cX8_acts 106 = .ok (.iload_n 3, 1) := by decide +kernel
theorem dX8_acts_107 : decode cX8_acts 107 = .ok (.invokevirtual 128, 3) := by decide +kernel
theorem dX8_acts_110 : decode cX8_acts 110 = .ok (.ireturn, 1) := by decide +kernel
theorem dX8_acts_111 : decode cX8_acts 111 = .ok (.aload_n 0, 1) := by decide +kernel
theorem dX8_acts_112 : decode cX8_acts 112 = .ok (.iload_n 2, 1) := by decide +kernel
theorem dX8_acts_113 : decode cX8_acts 113 = .ok (.invokevirtual 131, 3) := by decide +kernel
theorem dX8_acts_116 : decode cX8_acts 116 = .ok (.ireturn, 1) := by decide +kernel
theorem dX8_acts_117 : decode cX8_acts 117 = .ok (.aload_n 0, 1) := by decide +kernel
theorem dX8_acts_118 : decode cX8_acts 118 = .ok (.iload_n 2, 1) := by decide +kernel
theorem dX8_acts_119 : decode cX8_acts 119 = .ok (.iload_n 3, 1) := by decide +kernel
theorem dX8_acts_120 : decode cX8_acts 120 = .ok (.invokevirtual 134, 3) := by decide +kernel
theorem dX8_acts_123 : decode cX8_acts 123 = .ok (.ireturn, 1) := by decide +kernel
theorem dX8_acts_124 : decode cX8_acts 124 = .ok (.aload_n 0, 1) := by decide +kernel
theorem dX8_acts_125 : decode cX8_acts 125 = .ok (.iload_n 2, 1) := by decide +kernel
theorem dX8_acts_126 : decode cX8_acts 126 = .ok (.iload_n 3, 1) := by decide +kernel
theorem dX8_acts_127 : decode cX8_acts 127 = .ok (.invokevirtual 137, 3) := by decide +kernel
theorem dX8_acts_130 : decode cX8_acts 130 = .ok (.ireturn, 1) := by decide +kernel
theorem dX8_acts_131 : decode cX8_acts 131 = .ok (.aload_n 0, 1) := by decide +kernel
theorem dX8_acts_132 : decode cX8_acts 132 = .ok (.iload_n 2, 1) := by decide +kernel
theorem dX8_acts_133 : decode cX8_acts 133 = .ok (.iload_n 3, 1) := by decide +kernel
theorem dX8_acts_134 : decode cX8_acts 134 = .ok (.invokevirtual 140, 3) := by decide +kernel
theorem dX8_acts_137 : decode cX8_acts 137 = .ok (.ireturn, 1) := by decide +kernel
theorem dX8_acts_138 : decode cX8_acts 138 = .ok (.aload_n 0, 1) := by decide +kernel
theorem dX8_acts_139 : decode cX8_acts 139 = .ok (.iload_n 2, 1) := by decide +kernel
theorem dX8_acts_140 : decode cX8_acts 140 = .ok (.iload_n 3, 1) := by decide +kernel
theorem dX8_acts_141 : decode cX8_acts 141 = .ok (.iload 4, 2) := by decide +kernel
theorem dX8_acts_143 : decode cX8_acts 143 = .ok (.invokevirtual 143, 3) := by decide +kernel
theorem dX8_acts_146 : decode cX8_acts 146 = .ok (.ireturn, 1) := by decide +kernel
theorem dX8_acts_147 : decode cX8_acts 147 = .ok (.aload_n 0, 1) := by decide +kernel
theorem dX8_acts_148 : decode cX8_acts 148 = .ok (.iload_n 2, 1) := by decide +kernel
theorem dX8_acts_149 : decode cX8_acts 149 = .ok (.iload_n 3, 1) := by decide +kernel
theorem dX8_acts_150 : decode cX8_acts 150 = .ok (.iload 4, 2) := by decide +kernel
theorem dX8_acts_152 : decode cX8_acts 152 = .ok (.invokevirtual 147, 3) := by decide +kernel
theorem dX8_acts_155 : decode cX8_acts 155 = .ok (.ireturn, 1) := by decide +kernel
theorem dX8_acts_156 : decode cX8_acts 156 = .ok (.aload_n 0, 1) := by decide +kernel
theorem dX8_acts_157 : decode cX8_acts 157 = .ok (.iload_n 2, 1) := by decide +kernel
theorem dX8_acts_158 : decode cX8_acts 158 = .ok (.iload_n 3, 1) := by decide +kernel
theorem dX8_acts_159 : decode cX8_acts 159 = .ok (.iload 4, 2) := by decide +kernel
theorem dX8_acts_161 : decode cX8_acts 161 = .ok (.invokevirtual 150, 3) := by decide +kernel
theorem dX8_acts_164 : decode cX8_acts 164 = .ok (.ireturn, 1) := by decide +kernel
theorem dX8_acts_165 : decode cX8_acts 165 = .ok (.aload_n 0, 1) := by decide +kernel
theorem dX8_acts_166 : decode cX8_acts 166 = .ok (.iload_n 2, 1) := by decide +kernel
theorem dX8_acts_167 : decode cX8_acts 167 = .ok (.invokevirtual 153, 3) := by decide +kernel
theorem dX8_acts_170 : decode cX8_acts 170 = .ok (.ireturn, 1) := by decide +kernel
theorem dX8_calls_0 : decode cX8_calls 0 = .ok (.aload_n 0, 1) := by decide +kernel
theorem dX8_calls_1 : decode cX8_calls 1 = .ok (.invokevirtual 156, 3) := by decide +kernel
theorem dX8_calls_4 : decode cX8_calls 4 = .ok (.aload_n 0, 1) := by decide +kernel
theorem dX8_calls_5 : decode cX8_calls 5 = .ok (.iload_n 1, 1) := by decide +kernel
theorem dX8_calls_6 : decode cX8_calls 6 = .ok (.iload_n 2, 1) := by decide +kernel
theorem dX8_calls_7 : decode cX8_calls 7 = .ok (.iload_n 3, 1) := by decide +kernel
theorem dX8_calls_8 : decode cX8_calls 8 = .ok (.iload 4, 2) := by decide +kernel
theorem dX8_calls_10 : decode cX8_calls 10 = .ok (.invokevirtual 159, 3) := by decide +kernel
theorem dX8_calls_13 : decode cX8_calls 13 = .ok (.istore 5, 2) := by decide +kernel
theorem dX8_calls_15 : decode cX8_calls 15 = .ok (.iload 5, 2) := by decide +kernel
theorem dX8_calls_17 : decode cX8_calls 17 = .ok (.ifCond .lt 7, 3) := by decide +kernel
theorem dX8_calls_20 : decode cX8_calls 20 = .ok (.aload_n 0, 1) := by decide +kernel
theorem dX8_calls_21 : decode cX8_calls 21 = .ok (.invokevirtual 162, 3) := by decide +kernel
theorem dX8_calls_24 : decode cX8_calls 24 = .ok (.aload_n 0, 1) := by decide +kernel
theorem dX8_calls_25 : decode cX8_calls 25 = .ok (.iload 5, 2) := by decide +kernel
theorem dX8_calls_27 : decode cX8_calls 27 = .ok (.invokevirtual 165, 3) := by decide +kernel
theorem dX8_calls_30 : decode cX8_calls 30 = .ok (.ireturn, 1) := by decide +kernel
theorem dX8_make_0 : decode cX8_make 0 = .ok (.aload_n 0, 1) := by decide +kernel
theorem dX8_make_1 : decode cX8_make 1 = .ok (.bipush 109, 2) := by decide +kernel
theorem dX8_make_3 : decode cX8_make 3 = .ok (.iload_n 1, 1) := by decide +kernel
theorem dX8_make_4 : decode cX8_make 4 = .ok (.iload_n 2, 1) := by decide +kernel
theorem dX8_make_5 : decode cX8_make 5 = .ok (.iconst 0, 1) := by decide +kernel
theorem dX8_make_6 : decode cX8_make 6 = .ok (.invokevirtual 168, 3) := by decide +kernel
theorem dX8_make_9 : decode cX8_make 9 = .ok (.ireturn, 1) := by decide +kernel
theorem dX8_end_0 : decode cX8_end 0 = .ok (.aload_n 0, 1) := by decide +kernel
theorem dX8_end_1 : decode cX8_end 1 = .ok (.bipush 101, 2) := by decide +kernel
theorem dX8_end_3 : decode cX8_end 3 = .ok (.iload_n 1, 1) := by decide +kernel
theorem dX8_end_4 : decode cX8_end 4 = .ok (.iconst 0, 1) := by decide +kernel
theorem dX8_end_5 : decode cX8_end 5 = .ok (.iconst 0, 1) := by decide +kernel
theorem dX8_end_6 : decode cX8_end 6 = .ok (.invokevirtual 168, 3) := by decide +kernel
theorem dX8_end_9 : decode cX8_end 9 = .ok (.ireturn, 1) := by decide +kernel
theorem dX8_set_0 : decode cX8_set 0 = .ok (.aload_n 0, 1) := by decide +kernel
theorem dX8_set_1 : decode cX8_set 1 = .ok (.bipush 115, 2) := by decide +kernel
theorem dX8_set_3 : decode cX8_set 3 = .ok (.iload_n 1, 1) := by decide +kernel
theorem dX8_set_4 : decode cX8_set 4 = .ok (.iload_n 2, 1) := by decide +kernel
theorem dX8_set_5 : decode cX8_set 5 = .ok (.iconst 0, 1) := by decide +kernel
theorem dX8_set_6 : decode cX8_set 6 = .ok (.invokevirtual 168, 3) := by decide +kernel
theorem dX8_set_9 : decode cX8_set 9 = .ok (.ireturn, 1) := by decide +kernel
theorem dX8_copy_0 : decode cX8_copy 0 = .ok (.aload_n 0, 1) := by decide +kernel
theorem dX8_copy_1 : decode cX8_copy 1 = .ok (.bipush 99, 2) := by decide +kernel
theorem dX8_copy_3 : decode cX8_copy 3 = .ok (.iload_n 1, 1) := by decide +kernel
theorem dX8_copy_4 : decode cX8_copy 4 = .ok (.iload_n 2, 1) := by decide +kernel
theorem dX8_copy_5 : decode cX8_copy 5 = .ok (.iconst 0, 1) := by decide +kernel
theorem dX8_copy_6 : decode cX8_copy 6 = .ok (.invokevirtual 168, 3) := by decide +kernel
theorem dX8_copy_9 : decode cX8_copy 9 = .ok (.ireturn, 1) := by decide +kernel
theorem dX8_move_0 : decode cX8_move 0 = .ok (.aload_n 0, 1) := by decide +kernel
theorem dX8_move_1 : decode cX8_move 1 = .ok (.bipush 118, 2) := by decide +kernel
theorem dX8_move_3 : decode cX8_move 3 = .ok (.iload_n 1, 1) := by decide +kernel
theorem dX8_move_4 : decode cX8_move 4 = .ok (.iload_n 2, 1) := by decide +kernel
theorem dX8_move_5 : decode cX8_move 5 = .ok (.iconst 0, 1) := by decide +kernel
theorem dX8_move_6 : decode cX8_move 6 = .ok (.invokevirtual 168, 3) := by decide +kernel
theorem dX8_move_9 : decode cX8_move 9 = .ok (.ireturn, 1) := by decide +kernel
theorem dX8_store_0 : decode cX8_store 0 = .ok (.aload_n 0, 1) := by decide +kernel
theorem dX8_store_1 : decode cX8_store 1 = .ok (.bipush 119, 2) := by decide +kernel
theorem dX8_store_3 : decode cX8_store 3 = .ok (.iload_n 1, 1) := by decide +kernel
theorem dX8_store_4 : decode cX8_store 4 = .ok (.iload_n 2, 1) := by decide +kernel
theorem dX8_store_5 : decode cX8_store 5 = .ok (.iload_n 3, 1) := by decide +kernel
theorem dX8_store_6 : decode cX8_store 6 = .ok (.invokevirtual 168, 3) := by decide +kernel
theorem dX8_store_9 : decode cX8_store 9 = .ok (.ireturn, 1) := by decide +kernel
theorem dX8_load_0 : decode cX8_load 0 = .ok (.aload_n 0, 1) := by decide +kernel
theorem dX8_load_1 : decode cX8_load 1 = .ok (.bipush 108, 2) := by decide +kernel
theorem dX8_load_3 : decode cX8_load 3 = .ok (.iload_n 1, 1) := by decide +kernel
theorem dX8_load_4 : decode cX8_load 4 = .ok (.iload_n 2, 1) := by decide +kernel
theorem dX8_load_5 : decode cX8_load 5 = .ok (.iload_n 3, 1) := by decide +kernel
theorem dX8_load_6 : decode cX8_load 6 = .ok (.invokevirtual 168, 3) := by decide +kernel
theorem dX8_load_9 : decode cX8_load 9 = .ok (.ireturn, 1) := by decide +kernel
theorem dX8_compare_0 : decode cX8_compare 0 = .ok (.aload_n 0, 1) := by decide +kernel
theorem dX8_compare_1 : decode cX8_compare 1 = .ok (.aload_n 0, 1) := by decide +kernel
theorem dX8_compare_2 : decode cX8_compare 2 = .ok (.iload_n 1, 1) := by decide +kernel
theorem dX8_compare_3 : decode cX8_compare 3 = .ok (.iload_n 2, 1) := by decide +kernel
theorem dX8_compare_4 : decode cX8_compare 4 = .ok (.invokevirtual 171, 3) := by decide +kernel
theorem dX8_compare_7 : decode cX8_compare 7 = .ok (.invokevirtual 165, 3) := by decide +kernel
theorem dX8_compare_10 : decode cX8_compare 10 = .ok (.ireturn, 1) := by decide +kernel
theorem dX8_blit_0 : decode cX8_blit 0 = .ok (.aload_n 0, 1) := by decide +kernel
theorem dX8_blit_1 : decode cX8_blit 1 = .ok (.bipush 98, 2) := by decide +kernel
theorem dX8_blit_3 : decode cX8_blit 3 = .ok (.iload_n 1, 1) := by decide +kernel
theorem dX8_blit_4 : decode cX8_blit 4 = .ok (.iload_n 2, 1) := by decide +kernel
theorem dX8_blit_5 : decode cX8_blit 5 = .ok (.iload_n 3, 1) := by decide +kernel
theorem dX8_blit_6 : decode cX8_blit 6 = .ok (.invokevirtual 168, 3) := by decide +kernel
theorem dX8_blit_9 : decode cX8_blit 9 = .ok (.ireturn, 1) := by decide +kernel
theorem dX8_freeze_0 : decode cX8_freeze 0 = .ok (.aload_n 0, 1) := by decide +kernel
theorem dX8_freeze_1 : decode cX8_freeze 1 = .ok (.bipush 122, 2) := by decide +kernel
theorem dX8_freeze_3 : decode cX8_freeze 3 = .ok (.iload_n 1, 1) := by decide +kernel
theorem dX8_freeze_4 : decode cX8_freeze 4 = .ok (.iconst 0, 1) := by decide +kernel
theorem dX8_freeze_5 : decode cX8_freeze 5 = .ok (.iconst 0, 1) := by decide +kernel
theorem dX8_freeze_6 : decode cX8_freeze 6 = .ok (.invokevirtual 168, 3) := by decide +kernel
theorem dX8_freeze_9 : decode cX8_freeze 9 = .ok (.ireturn, 1) := by decide +kernel
theorem dX8_forget_0 : decode cX8_forget 0 = .ok (.iload_n 1, 1) := by decide +kernel
theorem dX8_forget_1 : decode cX8_forget 1 = .ok (.invokestatic 85, 3) := by decide +kernel
theorem dX8_forget_4 : decode cX8_forget 4 = .ok (.ifCond .ne 8, 3) := by decide +kernel
theorem dX8_forget_7 : decode cX8_forget 7 = .ok (.aload_n 0, 1) := by decide +kernel
theorem dX8_forget_8 : decode cX8_forget 8 = .ok (.invokevirtual 174, 3) := by decide +kernel
theorem dX8_forget_11 : decode cX8_forget 11 = .ok (.ireturn, 1) := by decide +kernel
theorem dX8_forget_12 : decode cX8_forget 12 = .ok (.aload_n 0, 1) := by decide +kernel
theorem dX8_forget_13 : decode cX8_forget 13 = .ok (.invokevirtual 156, 3) := by decide +kernel
theorem dX8_forget_16 : decode cX8_forget 16 = .ok (.aload_n 0, 1) := by decide +kernel
theorem dX8_forget_17 : decode cX8_forget 17 = .ok (.invokevirtual 162, 3) := by decide +kernel
theorem dX8_forget_20 : decode cX8_forget 20 = .ok (.aload_n 0, 1) := by decide +kernel
theorem dX8_forget_21 : decode cX8_forget 21 = .ok (.iload_n 1, 1) := by decide +kernel
theorem dX8_forget_22 : decode cX8_forget 22 = .ok (.invokevirtual 55, 3) := by decide +kernel
theorem dX8_forget_25 : decode cX8_forget 25 = .ok (.istore_n 2, 1) := by decide +kernel
theorem dX8_forget_26 : decode cX8_forget 26 = .ok (.aload_n 0, 1) := by decide +kernel
theorem dX8_forget_27 : decode cX8_forget 27 = .ok (.iload_n 1, 1) := by decide +kernel
theorem dX8_forget_28 : decode cX8_forget 28 = .ok (.iconst 0, 1) := by decide +kernel
theorem dX8_forget_29 : decode cX8_forget 29 = .ok (.iconst 0, 1) := by decide +kernel
theorem dX8_forget_30 : decode cX8_forget 30 = .ok (.iconst 0, 1) := by decide +kernel
theorem dX8_forget_31 : decode cX8_forget 31 = .ok (.invokevirtual 88, 3) := by decide +kernel
theorem dX8_forget_34 : decode cX8_forget 34 = .ok (.pop, 1) := by decide +kernel
theorem dX8_forget_35 : decode cX8_forget 35 = .ok (.iload_n 2, 1) := by decide +kernel
theorem dX8_forget_36 : decode cX8_forget 36 = .ok (.ireturn, 1) := by decide +kernel
theorem dX8_budget_0 : decode cX8_budget 0 = .ok (.iload_n 1, 1) := by decide +kernel
theorem dX8_budget_1 : decode cX8_budget 1 = .ok (.iconst 1, 1) := by decide +kernel
theorem dX8_budget_2 : decode cX8_budget 2 = .ok (.bipush 60, 2) := by decide +kernel
theorem dX8_budget_4 : decode cX8_budget 4 = .ok (.invokestatic 51, 3) := by decide +kernel
theorem dX8_budget_7 : decode cX8_budget 7 = .ok (.ifCond .ne 8, 3) := by decide +kernel
theorem dX8_budget_10 : decode cX8_budget 10 = .ok (.aload_n 0, 1) := by decide +kernel
theorem dX8_budget_11 : decode cX8_budget 11 = .ok (.invokevirtual 174, 3) := by decide +kernel
theorem dX8_budget_14 : decode cX8_budget 14 = .ok (.ireturn, 1) := by decide +kernel
theorem dX8_budget_15 : decode cX8_budget 15 = .ok (.aload_n 0, 1) := by decide +kernel
theorem dX8_budget_16 : decode cX8_budget 16 = .ok (.invokevirtual 156, 3) := by decide +kernel
theorem dX8_budget_19 : decode cX8_budget 19 = .ok (.aload_n 0, 1) := by decide +kernel
theorem dX8_budget_20 : decode cX8_budget 20 = .ok (.invokevirtual 162, 3) := by decide +kernel
theorem dX8_budget_23 : decode cX8_budget 23 = .ok (.aload_n 0, 1) := by decide +kernel
theorem dX8_budget_24 : decode cX8_budget 24 = .ok (.getfield 7, 3) := by decide +kernel
theorem dX8_budget_27 : decode cX8_budget 27 = .ok (.sipush 169, 3) := by decide +kernel
theorem dX8_budget_30 : decode cX8_budget 30 = .ok (.iaload, 1) := by decide +kernel
theorem dX8_budget_31 : decode cX8_budget 31 = .ok (.istore_n 2, 1) := by decide +kernel
theorem dX8_budget_32 : decode cX8_budget 32 = .ok (.aload_n 0, 1) := by decide +kernel
theorem dX8_budget_33 : decode cX8_budget 33 = .ok (.getfield 7, 3) := by decide +kernel
theorem dX8_budget_36 : decode cX8_budget 36 = .ok (.sipush 169, 3) := by decide +kernel
theorem dX8_budget_39 : decode cX8_budget 39 = .ok (.iload_n 1, 1) := by decide +kernel
theorem dX8_budget_40 : decode cX8_budget 40 = .ok (.iastore, 1) := by decide +kernel
theorem dX8_budget_41 : decode cX8_budget 41 = .ok (.iload_n 2, 1) := by decide +kernel
theorem dX8_budget_42 : decode cX8_budget 42 = .ok (.ireturn, 1) := by decide +kernel
theorem dX8_ofRegister_0 : decode cX8_ofRegister 0 = .ok (.iload_n 2, 1) := by decide +kernel
theorem dX8_ofRegister_1 : decode cX8_ofRegister 1 = .ok (.ifCond .ne 9, 3) := by decide +kernel
theorem dX8_ofRegister_4 : decode cX8_ofRegister 4 = .ok (.aload_n 0, 1) := by decide +kernel
theorem dX8_ofRegister_5 : decode cX8_ofRegister 5 = .ok (.iload_n 1, 1) := by decide +kernel
theorem dX8_ofRegister_6 : decode cX8_ofRegister 6 = .ok (.invokevirtual 55, 3) := by decide +kernel
theorem dX8_ofRegister_9 : decode cX8_ofRegister 9 = .ok (.ireturn, 1) := by decide +kernel
theorem dX8_ofRegister_10 : decode cX8_ofRegister 10 = .ok (.iload_n 2, 1) := by decide +kernel
theorem dX8_ofRegister_11 : decode cX8_ofRegister 11 = .ok (.iconst 1, 1) := by decide +kernel
theorem dX8_ofRegister_12 : decode cX8_ofRegister 12 = .ok (.if_icmp .ne 23, 3) := by decide +kernel
theorem dX8_ofRegister_15 : decode cX8_ofRegister 15 = .ok (.aload_n 0, 1) := by decide +kernel
theorem dX8_ofRegister_16 : decode cX8_ofRegister 16 = .ok (.iload_n 1, 1) := by decide +kernel
theorem dX8_ofRegister_17 : decode cX8_ofRegister 17 = .ok (.invokevirtual 55, 3) := by decide +kernel
theorem dX8_ofRegister_20 : decode cX8_ofRegister 20 = .ok (.ifCond .ne 7, 3) := by decide +kernel
theorem dX8_ofRegister_23 : decode cX8_ofRegister 23 = .ok (.iconst (-1), 1) := by decide +kernel
theorem dX8_ofRegister_24 : decode cX8_ofRegister 24 = .ok (.goto 29, 3) := by decide +kernel
theorem dX8_ofRegister_27 : decode cX8_ofRegister 27 = .ok (.aload_n 0, 1) := by decide +kernel
theorem dX8_ofRegister_28 : decode cX8_ofRegister 28 = .ok (.iload_n 1, 1) := by decide +kernel
theorem dX8_ofRegister_29 : decode cX8_ofRegister 29 = .ok (.invokevirtual 58, 3) := by decide +kernel
theorem dX8_ofRegister_32 : decode cX8_ofRegister 32 = .ok (.goto 21, 3) := by decide +kernel
theorem dX8_ofRegister_35 : decode cX8_ofRegister 35 = .ok (.aload_n 0, 1) := by decide +kernel
theorem dX8_ofRegister_36 : decode cX8_ofRegister 36 = .ok (.iload_n 1, 1) := by decide +kernel
theorem dX8_ofRegister_37 : decode cX8_ofRegister 37 = .ok (.invokevirtual 55, 3) := by decide +kernel
theorem dX8_ofRegister_40 : decode cX8_ofRegister 40 = .ok (.iconst 2, 1) := by decide +kernel
theorem dX8_ofRegister_41 : decode cX8_ofRegister 41 = .ok (.if_icmp .ne 11, 3) := by decide +kernel
theorem dX8_ofRegister_44 : decode cX8_ofRegister 44 = .ok (.aload_n 0, 1) := by decide +kernel
theorem dX8_ofRegister_45 : decode cX8_ofRegister 45 = .ok (.iload_n 1, 1) := by decide +kernel
theorem dX8_ofRegister_46 : decode cX8_ofRegister 46 = .ok (.invokevirtual 65, 3) := by decide +kernel
theorem dX8_ofRegister_49 : decode cX8_ofRegister 49 = .ok (.goto 4, 3) := by decide +kernel
theorem dX8_ofRegister_52 : decode cX8_ofRegister 52 = .ok (.iconst (-1), 1) := by decide +kernel
theorem dX8_ofRegister_53 : decode cX8_ofRegister 53 = .ok (.ireturn, 1) := by decide +kernel
theorem dX8_register_0 : decode cX8_register 0 = .ok (.iload_n 1, 1) := by decide +kernel
theorem dX8_register_1 : decode cX8_register 1 = .ok (.invokestatic 85, 3) := by decide +kernel
theorem dX8_register_4 : decode cX8_register 4 = .ok (.ifCond .eq 21, 3) := by decide +kernel
theorem dX8_register_7 : decode cX8_register 7 = .ok (.iload_n 2, 1) := by decide +kernel
theorem dX8_register_8 : decode cX8_register 8 = .ok (.iconst 0, 1) := by decide +kernel
theorem dX8_register_9 : decode cX8_register 9 = .ok (.iconst 2, 1) := by decide +kernel
theorem dX8_register_10 : decode cX8_register 10 = .ok (.invokestatic 51, 3) := by decide +kernel
theorem dX8_register_13 : decode cX8_register 13 = .ok (.ifCond .eq 12, 3) := by decide +kernel
theorem dX8_register_16 : decode cX8_register 16 = .ok (.aload_n 0, 1) := by decide +kernel
theorem dX8_register_17 : decode cX8_register 17 = .ok (.iload_n 1, 1) := by decide +kernel
theorem dX8_register_18 : decode cX8_register 18 = .ok (.iload_n 2, 1) := by decide +kernel
theorem dX8_register_19 : decode cX8_register 19 = .ok (.invokevirtual 177, 3) := by decide +kernel
theorem dX8_register_22 : decode cX8_register 22 = .ok (.goto 7, 3) := by decide +kernel
theorem dX8_register_25 : decode cX8_register 25 = .ok (.aload_n 0, 1) := by decide +kernel
theorem dX8_register_26 : decode cX8_register 26 = .ok (.invokevirtual 174, 3) := by decide +kernel
theorem dX8_register_29 : decode cX8_register 29 = .ok (.ireturn, 1) := by decide +kernel
theorem dX8_isPiece_0 : decode cX8_isPiece 0 = .ok (.iload_n 1, 1) := by decide +kernel
theorem dX8_isPiece_1 : decode cX8_isPiece 1 = .ok (.iconst 0, 1) := by decide +kernel
theorem dX8_isPiece_2 : decode cX8_isPiece 2 = .ok (.aload_n 0, 1) := by decide +kernel
theorem dX8_isPiece_3 : decode cX8_isPiece 3 = .ok (.getfield 7, 3) := by decide +kernel
theorem dX8_isPiece_6 : decode cX8_isPiece 6 = .ok (.iconst 0, 1) := by decide +kernel
theorem dX8_isPiece_7 : decode cX8_isPiece 7 = .ok (.iaload, 1) := by decide +kernel
theorem dX8_isPiece_8 : decode cX8_isPiece 8 = .ok (.iconst 1, 1) := by decide +kernel
theorem dX8_isPiece_9 : decode cX8_isPiece 9 = .ok (.isub, 1) := by decide +kernel
theorem dX8_isPiece_10 : decode cX8_isPiece 10 = .ok (.invokestatic 51, 3) := by decide +kernel
theorem dX8_isPiece_13 : decode cX8_isPiece 13 = .ok (.ireturn, 1) := by decide +kernel
theorem dX8_bytesOf_0 : decode cX8_bytesOf 0 = .ok (.iconst 0, 1) := by decide +kernel
theorem dX8_bytesOf_1 : decode cX8_bytesOf 1 = .ok (.istore_n 3, 1) := by decide +kernel
theorem dX8_bytesOf_2 : decode cX8_bytesOf 2 = .ok (.iconst 0, 1) := by decide +kernel
theorem dX8_bytesOf_3 : decode cX8_bytesOf 3 = .ok (.istore 4, 2) := by decide +kernel
