theorem dX4_acceptsLetter_30 : decode cX4_acceptsLetter 30 = .ok (.getfield 25, 3) := by decide +kernel
theorem dX4_acceptsLetter_33 : decode cX4_acceptsLetter 33 = .ok (.iload_n 1, 1) := by decide +kernel
theorem dX4_acceptsLetter_34 : decode cX4_acceptsLetter 34 = .ok (.iastore, 1) := by decide +kernel
theorem dX4_acceptsLetter_35 : decode cX4_acceptsLetter 35 = .ok (.aload_n 0, 1) := by decide +kernel
theorem dX4_acceptsLetter_36 : decode cX4_acceptsLetter 36 = .ok (.iload_n 1, 1) := by decide +kernel
theorem dX4_acceptsLetter_37 : decode cX4_acceptsLetter 37 = .ok (.putfield 28, 3) := by decide +kernel
theorem dX4_acceptsLetter_40 : decode cX4_acceptsLetter 40 = .ok (.aload_n 0, 1) := by decide +kernel
theorem dX4_acceptsLetter_41 : decode cX4_acceptsLetter 41 = .ok (.iconst 0, 1) := by decide +kernel
theorem dX4_acceptsLetter_42 : decode cX4_acceptsLetter 42 = .ok (.putfield 59, 3) := by decide +kernel
theorem dX4_acceptsLetter_45 : decode cX4_acceptsLetter 45 = .ok (.aload_n 0, 1) := by decide +kernel
theorem dX4_acceptsLetter_46 : decode cX4_acceptsLetter 46 = .ok (.iconst 0, 1) := by decide +kernel
theorem dX4_acceptsLetter_47 : decode cX4_acceptsLetter 47 = .ok (.putfield 45, 3) := by decide +kernel
theorem dX4_acceptsLetter_50 : decode cX4_acceptsLetter 50 = .ok (.aload_n 0, 1) := by decide +kernel
theorem dX4_acceptsLetter_51 : decode cX4_acceptsLetter 51 = .ok (.iconst 0, 1) := by decide +kernel
theorem dX4_acceptsLetter_52 : decode cX4_acceptsLetter 52 = .ok (.putfield 41, 3) := by decide +kernel
theorem dX4_acceptsLetter_55 : decode cX4_acceptsLetter 55 = .ok (.iconst 1, 1) := by decide +kernel
theorem dX4_acceptsLetter_56 : decode cX4_acceptsLetter 56 = .ok (.ireturn, 1) := by decide +kernel
theorem dX4_acceptsDigit_0 : decode cX4_acceptsDigit 0 = .ok (.aload_n 0, 1) := by decide +kernel
theorem dX4_acceptsDigit_1 : decode cX4_acceptsDigit 1 = .ok (.getfield 45, 3) := by decide +kernel
theorem dX4_acceptsDigit_4 : decode cX4_acceptsDigit 4 = .ok (.ifCond .ne 55, 3) := by decide +kernel
theorem dX4_acceptsDigit_7 : decode cX4_acceptsDigit 7 = .ok (.aload_n 0, 1) := by decide +kernel
theorem dX4_acceptsDigit_8 : decode cX4_acceptsDigit 8 = .ok (.getfield 59, 3) := by decide +kernel
theorem dX4_acceptsDigit_11 : decode cX4_acceptsDigit 11 = .ok (.aload_n 0, 1) := by decide +kernel
theorem dX4_acceptsDigit_12 : decode cX4_acceptsDigit 12 = .ok (.getfield 28, 3) := by decide +kernel
theorem dX4_acceptsDigit_15 : decode cX4_acceptsDigit 15 = .ok (.invokestatic 55, 3) := by decide +kernel
theorem dX4_acceptsDigit_18 : decode cX4_acceptsDigit 18 = .ok (.if_icmp .ne 5, 3) := by decide +kernel
theorem dX4_acceptsDigit_21 : decode cX4_acceptsDigit 21 = .ok (.iconst 0, 1) := by decide +kernel
theorem dX4_acceptsDigit_22 : decode cX4_acceptsDigit 22 = .ok (.ireturn, 1) := by decide +kernel
theorem dX4_acceptsDigit_23 : decode cX4_acceptsDigit 23 = .ok (.aload_n 0, 1) := by decide +kernel
theorem dX4_acceptsDigit_24 : decode cX4_acceptsDigit 24 = .ok (.aload_n 0, 1) := by decide +kernel
theorem dX4_acceptsDigit_25 : decode cX4_acceptsDigit 25 = .ok (.getfield 41, 3) := by decide +kernel
theorem dX4_acceptsDigit_28 : decode cX4_acceptsDigit 28 = .ok (.ifCond .eq 7, 3) := by decide +kernel
theorem dX4_acceptsDigit_31 : decode cX4_acceptsDigit 31 = .ok (.iconst (-1), 1) := by decide +kernel
theorem dX4_acceptsDigit_32 : decode cX4_acceptsDigit 32 = .ok (.goto 4, 3) := by decide +kernel
theorem dX4_acceptsDigit_35 : decode cX4_acceptsDigit 35 = .ok (.iconst 1, 1) := by decide +kernel
theorem dX4_acceptsDigit_36 : decode cX4_acceptsDigit 36 = .ok (.putfield 62, 3) := by decide +kernel
theorem dX4_acceptsDigit_39 : decode cX4_acceptsDigit 39 = .ok (.aload_n 0, 1) := by decide +kernel
theorem dX4_acceptsDigit_40 : decode cX4_acceptsDigit 40 = .ok (.iconst 0, 1) := by decide +kernel
theorem dX4_acceptsDigit_41 : decode cX4_acceptsDigit 41 = .ok (.putfield 41, 3) := by decide +kernel
theorem dX4_acceptsDigit_44 : decode cX4_acceptsDigit 44 = .ok (.aload_n 0, 1) := by decide +kernel
theorem dX4_acceptsDigit_45 : decode cX4_acceptsDigit 45 = .ok (.aload_n 0, 1) := by decide +kernel
theorem dX4_acceptsDigit_46 : decode cX4_acceptsDigit 46 = .ok (.getfield 59, 3) := by decide +kernel
theorem dX4_acceptsDigit_49 : decode cX4_acceptsDigit 49 = .ok (.iconst 1, 1) := by decide +kernel
theorem dX4_acceptsDigit_50 : decode cX4_acceptsDigit 50 = .ok (.iadd, 1) := by decide +kernel
theorem dX4_acceptsDigit_51 : decode cX4_acceptsDigit 51 = .ok (.putfield 59, 3) := by decide +kernel
theorem dX4_acceptsDigit_54 : decode cX4_acceptsDigit 54 = .ok (.aload_n 0, 1) := by decide +kernel
theorem dX4_acceptsDigit_55 : decode cX4_acceptsDigit 55 = .ok (.iconst 0, 1) := by decide +kernel
theorem dX4_acceptsDigit_56 : decode cX4_acceptsDigit 56 = .ok (.invokevirtual 65, 3) := by decide +kernel
theorem dX4_acceptsDigit_59 : decode cX4_acceptsDigit 59 = .ok (.aload_n 0, 1) := by decide +kernel
theorem dX4_acceptsDigit_60 : decode cX4_acceptsDigit 60 = .ok (.getfield 45, 3) := by decide +kernel
theorem dX4_acceptsDigit_63 : decode cX4_acceptsDigit 63 = .ok (.iconst 5, 1) := by decide +kernel
theorem dX4_acceptsDigit_64 : decode cX4_acceptsDigit 64 = .ok (.if_icmp .ne 5, 3) := by decide +kernel
theorem dX4_acceptsDigit_67 : decode cX4_acceptsDigit 67 = .ok (.iconst 0, 1) := by decide +kernel
theorem dX4_acceptsDigit_68 : decode cX4_acceptsDigit 68 = .ok (.ireturn, 1) := by decide +kernel
theorem dX4_acceptsDigit_69 : decode cX4_acceptsDigit 69 = .ok (.aload_n 0, 1) := by decide +kernel
theorem dX4_acceptsDigit_70 : decode cX4_acceptsDigit 70 = .ok (.aload_n 0, 1) := by decide +kernel
theorem dX4_acceptsDigit_71 : decode cX4_acceptsDigit 71 = .ok (.getfield 45, 3) := by decide +kernel
theorem dX4_acceptsDigit_74 : decode cX4_acceptsDigit 74 = .ok (.iconst 1, 1) := by decide +kernel
theorem dX4_acceptsDigit_75 : decode cX4_acceptsDigit 75 = .ok (.iadd, 1) := by decide +kernel
theorem dX4_acceptsDigit_76 : decode cX4_acceptsDigit 76 = .ok (.putfield 45, 3) := by decide +kernel
theorem dX4_acceptsDigit_79 : decode cX4_acceptsDigit 79 = .ok (.aload_n 0, 1) := by decide +kernel
theorem dX4_acceptsDigit_80 : decode cX4_acceptsDigit 80 = .ok (.aload_n 0, 1) := by decide +kernel
theorem dX4_acceptsDigit_81 : decode cX4_acceptsDigit 81 = .ok (.aload_n 0, 1) := by decide +kernel
theorem dX4_acceptsDigit_82 : decode cX4_acceptsDigit 82 = .ok (.getfield 25, 3) := by decide +kernel
theorem dX4_acceptsDigit_85 : decode cX4_acceptsDigit 85 = .ok (.aload_n 0, 1) := by decide +kernel
theorem dX4_acceptsDigit_86 : decode cX4_acceptsDigit 86 = .ok (.getfield 59, 3) := by decide +kernel
theorem dX4_acceptsDigit_89 : decode cX4_acceptsDigit 89 = .ok (.iconst 1, 1) := by decide +kernel
theorem dX4_acceptsDigit_90 : decode cX4_acceptsDigit 90 = .ok (.isub, 1) := by decide +kernel
theorem dX4_acceptsDigit_91 : decode cX4_acceptsDigit 91 = .ok (.invokevirtual 69, 3) := by decide +kernel
theorem dX4_acceptsDigit_94 : decode cX4_acceptsDigit 94 = .ok (.bipush 10, 2) := by decide +kernel
theorem dX4_acceptsDigit_96 : decode cX4_acceptsDigit 96 = .ok (.imul, 1) := by decide +kernel
theorem dX4_acceptsDigit_97 : decode cX4_acceptsDigit 97 = .ok (.aload_n 0, 1) := by decide +kernel
theorem dX4_acceptsDigit_98 : decode cX4_acceptsDigit 98 = .ok (.getfield 62, 3) := by decide +kernel
theorem dX4_acceptsDigit_101 : decode cX4_acceptsDigit 101 = .ok (.iload_n 1, 1) := by decide +kernel
theorem dX4_acceptsDigit_102 : decode cX4_acceptsDigit 102 = .ok (.imul, 1) := by decide +kernel
theorem dX4_acceptsDigit_103 : decode cX4_acceptsDigit 103 = .ok (.iadd, 1) := by decide +kernel
theorem dX4_acceptsDigit_104 : decode cX4_acceptsDigit 104 = .ok (.invokevirtual 65, 3) := by decide +kernel
theorem dX4_acceptsDigit_107 : decode cX4_acceptsDigit 107 = .ok (.iconst 1, 1) := by decide +kernel
theorem dX4_acceptsDigit_108 : decode cX4_acceptsDigit 108 = .ok (.ireturn, 1) := by decide +kernel
theorem dX4_acceptsMinus_0 : decode cX4_acceptsMinus 0 = .ok (.aload_n 0, 1) := by decide +kernel
theorem dX4_acceptsMinus_1 : decode cX4_acceptsMinus 1 = .ok (.getfield 28, 3) := by decide +kernel
theorem dX4_acceptsMinus_4 : decode cX4_acceptsMinus 4 = .ok (.bipush 118, 2) := by decide +kernel
theorem dX4_acceptsMinus_6 : decode cX4_acceptsMinus 6 = .ok (.if_icmp .ne 11, 3) := by decide +kernel
theorem dX4_acceptsMinus_9 : decode cX4_acceptsMinus 9 = .ok (.aload_n 0, 1) := by decide +kernel
theorem dX4_acceptsMinus_10 : decode cX4_acceptsMinus 10 = .ok (.getfield 59, 3) := by decide +kernel
theorem dX4_acceptsMinus_13 : decode cX4_acceptsMinus 13 = .ok (.iconst 1, 1) := by decide +kernel
theorem dX4_acceptsMinus_14 : decode cX4_acceptsMinus 14 = .ok (.if_icmp .eq 5, 3) := by decide +kernel
theorem dX4_acceptsMinus_17 : decode cX4_acceptsMinus 17 = .ok (.iconst 0, 1) := by decide +kernel
theorem dX4_acceptsMinus_18 : decode cX4_acceptsMinus 18 = .ok (.ireturn, 1) := by decide +kernel
theorem dX4_acceptsMinus_19 : decode cX4_acceptsMinus 19 = .ok (.aload_n 0, 1) := by decide +kernel
theorem dX4_acceptsMinus_20 : decode cX4_acceptsMinus 20 = .ok (.iconst 0, 1) := by decide +kernel
theorem dX4_acceptsMinus_21 : decode cX4_acceptsMinus 21 = .ok (.putfield 45, 3) := by decide +kernel
theorem dX4_acceptsMinus_24 : decode cX4_acceptsMinus 24 = .ok (.aload_n 0, 1) := by decide +kernel
theorem dX4_acceptsMinus_25 : decode cX4_acceptsMinus 25 = .ok (.iconst 1, 1) := by decide +kernel
theorem dX4_acceptsMinus_26 : decode cX4_acceptsMinus 26 = .ok (.putfield 41, 3) := by decide +kernel
theorem dX4_acceptsMinus_29 : decode cX4_acceptsMinus 29 = .ok (.iconst 1, 1) := by decide +kernel
theorem dX4_acceptsMinus_30 : decode cX4_acceptsMinus 30 = .ok (.ireturn, 1) := by decide +kernel
theorem dX4_acceptsSemicolon_0 : decode cX4_acceptsSemicolon 0 = .ok (.aload_n 0, 1) := by decide +kernel
theorem dX4_acceptsSemicolon_1 : decode cX4_acceptsSemicolon 1 = .ok (.getfield 59, 3) := by decide +kernel
theorem dX4_acceptsSemicolon_4 : decode cX4_acceptsSemicolon 4 = .ok (.aload_n 0, 1) := by decide +kernel
theorem dX4_acceptsSemicolon_5 : decode cX4_acceptsSemicolon 5 = .ok (.getfield 28, 3) := by decide +kernel
theorem dX4_acceptsSemicolon_8 : decode cX4_acceptsSemicolon 8 = .ok (.invokestatic 55, 3) := by decide +kernel
theorem dX4_acceptsSemicolon_11 : decode cX4_acceptsSemicolon 11 = .ok (.if_icmp .eq 5, 3) := by decide +kernel
theorem dX4_acceptsSemicolon_14 : decode cX4_acceptsSemicolon 14 = .ok (.iconst 0, 1) := by decide +kernel
theorem dX4_acceptsSemicolon_15 : decode cX4_acceptsSemicolon 15 = .ok (.ireturn, 1) := by decide +kernel
theorem dX4_acceptsSemicolon_16 : decode cX4_acceptsSemicolon 16 = .ok (.aload_n 0, 1) := by decide +kernel
theorem dX4_acceptsSemicolon_17 : decode cX4_acceptsSemicolon 17 = .ok (.aload_n 0, 1) := by decide +kernel
theorem dX4_acceptsSemicolon_18 : decode cX4_acceptsSemicolon 18 = .ok (.getfield 25, 3) := by decide +kernel
theorem dX4_acceptsSemicolon_21 : decode cX4_acceptsSemicolon 21 = .ok (.iconst 1, 1) := by decide +kernel
theorem dX4_acceptsSemicolon_22 : decode cX4_acceptsSemicolon 22 = .ok (.iadd, 1) := by decide +kernel
theorem dX4_acceptsSemicolon_23 : decode cX4_acceptsSemicolon 23 = .ok (.putfield 25, 3) := by decide +kernel
theorem dX4_acceptsSemicolon_26 : decode cX4_acceptsSemicolon 26 = .ok (.aload_n 0, 1) := by decide +kernel
theorem dX4_acceptsSemicolon_27 : decode cX4_acceptsSemicolon 27 = .ok (.iconst (-1), 1) := by decide +kernel
theorem dX4_acceptsSemicolon_28 : decode cX4_acceptsSemicolon 28 = .ok (.putfield 28, 3) := by decide +kernel
theorem dX4_acceptsSemicolon_31 : decode cX4_acceptsSemicolon 31 = .ok (.iconst 1, 1) := by decide +kernel
theorem dX4_acceptsSemicolon_32 : decode cX4_acceptsSemicolon 32 = .ok (.ireturn, 1) := by decide +kernel
theorem dX4_putOperand_0 : decode cX4_putOperand 0 = .ok (.aload_n 0, 1) := by decide +kernel
theorem dX4_putOperand_1 : decode cX4_putOperand 1 = .ok (.getfield 25, 3) := by decide +kernel
theorem dX4_putOperand_4 : decode cX4_putOperand 4 = .ok (.iconst 3, 1) := by decide +kernel
theorem dX4_putOperand_5 : decode cX4_putOperand 5 = .ok (.imul, 1) := by decide +kernel
theorem dX4_putOperand_6 : decode cX4_putOperand 6 = .ok (.aload_n 0, 1) := by decide +kernel
theorem dX4_putOperand_7 : decode cX4_putOperand 7 = .ok (.getfield 59, 3) := by decide +kernel
theorem dX4_putOperand_10 : decode cX4_putOperand 10 = .ok (.iadd, 1) := by decide +kernel
theorem dX4_putOperand_11 : decode cX4_putOperand 11 = .ok (.iconst 1, 1) := by decide +kernel
theorem dX4_putOperand_12 : decode cX4_putOperand 12 = .ok (.isub, 1) := by decide +kernel
theorem dX4_putOperand_13 : decode cX4_putOperand 13 = .ok (.istore_n 2, 1) := by decide +kernel
theorem dX4_putOperand_14 : decode cX4_putOperand 14 = .ok (.iload_n 2, 1) := by decide +kernel
theorem dX4_putOperand_15 : decode cX4_putOperand 15 = .ok (.ifCond .lt 16, 3) := by decide +kernel
theorem dX4_putOperand_18 : decode cX4_putOperand 18 = .ok (.iload_n 2, 1) := by decide +kernel
theorem dX4_putOperand_19 : decode cX4_putOperand 19 = .ok (.bipush 120, 2) := by decide +kernel
theorem dX4_putOperand_21 : decode cX4_putOperand 21 = .ok (.if_icmp .ge 10, 3) := by decide +kernel
theorem dX4_putOperand_24 : decode cX4_putOperand 24 = .ok (.aload_n 0, 1) := by decide +kernel
theorem dX4_putOperand_25 : decode cX4_putOperand 25 = .ok (.getfield 18, 3) := by decide +kernel
theorem dX4_putOperand_28 : decode cX4_putOperand 28 = .ok (.iload_n 2, 1) := by decide +kernel
theorem dX4_putOperand_29 : decode cX4_putOperand 29 = .ok (.iload_n 1, 1) := by decide +kernel
theorem dX4_putOperand_30 : decode cX4_putOperand 30 = .ok (.iastore, 1) := by decide +kernel
theorem dX4_putOperand_31 : decode cX4_putOperand 31 = .ok (.return_, 1) := by decide +kernel
theorem dX4_operand_0 : decode cX4_operand 0 = .ok (.iload_n 1, 1) := by decide +kernel
theorem dX4_operand_1 : decode cX4_operand 1 = .ok (.iconst 3, 1) := by decide +kernel
theorem dX4_operand_2 : decode cX4_operand 2 = .ok (.imul, 1) := by decide +kernel
theorem dX4_operand_3 : decode cX4_operand 3 = .ok (.iload_n 2, 1) := by decide +kernel
theorem dX4_operand_4 : decode cX4_operand 4 = .ok (.iadd, 1) := by decide +kernel
theorem dX4_operand_5 : decode cX4_operand 5 = .ok (.istore_n 3, 1) := by decide +kernel
theorem dX4_operand_6 : decode cX4_operand 6 = .ok (.iload_n 3, 1) := by decide +kernel
theorem dX4_operand_7 : decode cX4_operand 7 = .ok (.ifCond .lt 18, 3) := by decide +kernel
theorem dX4_operand_10 : decode cX4_operand 10 = .ok (.iload_n 3, 1) := by decide +kernel
theorem dX4_operand_11 : decode cX4_operand 11 = .ok (.bipush 120, 2) := by decide +kernel
theorem dX4_operand_13 : decode cX4_operand 13 = .ok (.if_icmp .ge 12, 3) := by decide +kernel
theorem dX4_operand_16 : decode cX4_operand 16 = .ok (.aload_n 0, 1) := by decide +kernel
theorem dX4_operand_17 : decode cX4_operand 17 = .ok (.getfield 18, 3) := by decide +kernel
theorem dX4_operand_20 : decode cX4_operand 20 = .ok (.iload_n 3, 1) := by decide +kernel
theorem dX4_operand_21 : decode cX4_operand 21 = .ok (.iaload, 1) := by decide +kernel
theorem dX4_operand_22 : decode cX4_operand 22 = .ok (.goto 4, 3) := by decide +kernel
theorem dX4_operand_25 : decode cX4_operand 25 = .ok (.iconst 0, 1) := by decide +kernel
theorem dX4_operand_26 : decode cX4_operand 26 = .ok (.ireturn, 1) := by decide +kernel
theorem dX4_letterOf_0 : decode cX4_letterOf 0 = .ok (.iload_n 1, 1) := by decide +kernel
theorem dX4_letterOf_1 : decode cX4_letterOf 1 = .ok (.ifCond .lt 18, 3) := by decide +kernel
theorem dX4_letterOf_4 : decode cX4_letterOf 4 = .ok (.iload_n 1, 1) := by decide +kernel
theorem dX4_letterOf_5 : decode cX4_letterOf 5 = .ok (.bipush 40, 2) := by decide +kernel
theorem dX4_letterOf_7 : decode cX4_letterOf 7 = .ok (.if_icmp .ge 12, 3) := by decide +kernel
theorem dX4_letterOf_10 : decode cX4_letterOf 10 = .ok (.aload_n 0, 1) := by decide +kernel
theorem dX4_letterOf_11 : decode cX4_letterOf 11 = .ok (.getfield 15, 3) := by decide +kernel
theorem dX4_letterOf_14 : decode cX4_letterOf 14 = .ok (.iload_n 1, 1) := by decide +kernel
theorem dX4_letterOf_15 : decode cX4_letterOf 15 = .ok (.iaload, 1) := by decide +kernel
theorem dX4_letterOf_16 : decode cX4_letterOf 16 = .ok (.goto 4, 3) := by decide +kernel
theorem dX4_letterOf_19 : decode cX4_letterOf 19 = .ok (.iconst (-1), 1) := by decide +kernel
theorem dX4_letterOf_20 : decode cX4_letterOf 20 = .ok (.ireturn, 1) := by decide +kernel
theorem dX4_operandsOf_0 : decode cX4_operandsOf 0 = .ok (.iload_n 0, 1) := by decide +kernel
theorem dX4_operandsOf_1 : decode cX4_operandsOf 1 = .ok (.tableswitch 121 98 122 #[119, 117, 119, 115, 121, 121, 121, 121, 117, 121, 119, 117, 121, 121, 121, 121, 121, 117, 121, 121, 117, 119, 121, 121, 115], 115) := by decide +kernel
theorem dX4_operandsOf_116 : decode cX4_operandsOf 116 = .ok (.iconst 1, 1) := by decide +kernel
theorem dX4_operandsOf_117 : decode cX4_operandsOf 117 = .ok (.ireturn, 1) := by decide +kernel
theorem dX4_operandsOf_118 : decode cX4_operandsOf 118 = .ok (.iconst 2, 1) := by decide +kernel
theorem dX4_operandsOf_119 : decode cX4_operandsOf 119 = .ok (.ireturn, 1) := by decide +kernel
theorem dX4_operandsOf_120 : decode cX4_operandsOf 120 = .ok (.iconst 3, 1) := by decide +kernel
theorem dX4_operandsOf_121 : decode cX4_operandsOf 121 = .ok (.ireturn, 1) := by decide +kernel
theorem dX4_operandsOf_122 : decode cX4_operandsOf 122 = .ok (.iconst 0, 1) := by decide +kernel
theorem dX4_operandsOf_123 : decode cX4_operandsOf 123 = .ok (.ireturn, 1) := by decide +kernel
theorem dX4_run_0 : decode cX4_run 0 = .ok (.iconst 0, 1) := by decide +kernel
theorem dX4_run_1 : decode cX4_run 1 = .ok (.istore_n 3, 1) := by decide +kernel
theorem dX4_run_2 : decode cX4_run 2 = .ok (.iconst 0, 1) := by decide +kernel
theorem dX4_run_3 : decode cX4_run 3 = .ok (.istore 4, 2) := by decide +kernel
theorem dX4_run_5 : decode cX4_run 5 = .ok (.iload 4, 2) := by decide +kernel
theorem dX4_run_7 : decode cX4_run 7 = .ok (.iload_n 2, 1) := by decide +kernel
theorem dX4_run_8 : decode cX4_run 8 = .ok (.if_icmp .gt 75, 3) := by decide +kernel
theorem dX4_run_11 : decode cX4_run 11 = .ok (.iload_n 3, 1) := by decide +kernel
theorem dX4_run_12 : decode cX4_run 12 = .ok (.aload_n 0, 1) := by decide +kernel
theorem dX4_run_13 : decode cX4_run 13 = .ok (.getfield 25, 3) := by decide +kernel
theorem dX4_run_16 : decode cX4_run 16 = .ok (.if_icmp .lt 6, 3) := by decide +kernel
theorem dX4_run_19 : decode cX4_run 19 = .ok (.iload 4, 2) := by decide +kernel
theorem dX4_run_21 : decode cX4_run 21 = .ok (.ireturn, 1) := by decide +kernel
theorem dX4_run_22 : decode cX4_run 22 = .ok (.iload 4, 2) := by decide +kernel
theorem dX4_run_24 : decode cX4_run 24 = .ok (.iload_n 2, 1) := by decide +kernel
theorem dX4_run_25 : decode cX4_run 25 = .ok (.if_icmp .ge 52, 3) := by decide +kernel
theorem dX4_run_28 : decode cX4_run 28 = .ok (.aload_n 0, 1) := by decide +kernel
theorem dX4_run_29 : decode cX4_run 29 = .ok (.aload_n 1, 1) := by decide +kernel
theorem dX4_run_30 : decode cX4_run 30 = .ok (.iload_n 3, 1) := by decide +kernel
theorem dX4_run_31 : decode cX4_run 31 = .ok (.invokevirtual 73, 3) := by decide +kernel
theorem dX4_run_34 : decode cX4_run 34 = .ok (.istore 5, 2) := by decide +kernel
theorem dX4_run_36 : decode cX4_run 36 = .ok (.iload 5, 2) := by decide +kernel
theorem dX4_run_38 : decode cX4_run 38 = .ok (.ifCond .ge 10, 3) := by decide +kernel
theorem dX4_run_41 : decode cX4_run 41 = .ok (.iload 5, 2) := by decide +kernel
theorem dX4_run_43 : decode cX4_run 43 = .ok (.iload_n 3, 1) := by decide +kernel
theorem dX4_run_44 : decode cX4_run 44 = .ok (.invokestatic 77, 3) := by decide +kernel
theorem dX4_run_47 : decode cX4_run 47 = .ok (.ireturn, 1) := by decide +kernel
theorem dX4_run_48 : decode cX4_run 48 = .ok (.aload_n 0, 1) := by decide +kernel
theorem dX4_run_49 : decode cX4_run 49 = .ok (.iload_n 3, 1) := by decide +kernel
theorem dX4_run_50 : decode cX4_run 50 = .ok (.invokevirtual 80, 3) := by decide +kernel
theorem dX4_run_53 : decode cX4_run 53 = .ok (.bipush 106, 2) := by decide +kernel
theorem dX4_run_55 : decode cX4_run 55 = .ok (.if_icmp .ne 18, 3) := by decide +kernel
theorem dX4_run_58 : decode cX4_run 58 = .ok (.iload 5, 2) := by decide +kernel
theorem dX4_run_60 : decode cX4_run 60 = .ok (.iconst 1, 1) := by decide +kernel
theorem dX4_run_61 : decode cX4_run 61 = .ok (.if_icmp .ne 12, 3) := by decide +kernel
theorem dX4_run_64 : decode cX4_run 64 = .ok (.aload_n 0, 1) := by decide +kernel
theorem dX4_run_65 : decode cX4_run 65 = .ok (.iload_n 3, 1) := by decide +kernel
theorem dX4_run_66 : decode cX4_run 66 = .ok (.iconst 1, 1) := by decide +kernel
theorem dX4_run_67 : decode cX4_run 67 = .ok (.invokevirtual 69, 3) := by decide +kernel
theorem dX4_run_70 : decode cX4_run 70 = .ok (.goto 6, 3) := by decide +kernel
theorem dX4_run_73 : decode cX4_run 73 = .ok (.iload_n 3, 1) := by decide +kernel
theorem dX4_run_74 : decode cX4_run 74 = .ok (.iconst 1, 1) := by decide +kernel
theorem dX4_run_75 : decode cX4_run 75 = .ok (.iadd, 1) := by decide +kernel
theorem dX4_run_76 : decode cX4_run 76 = .ok (.istore_n 3, 1) := by decide +kernel
theorem dX4_run_77 : decode cX4_run 77 = .ok (.iinc 4 1, 3) := by decide +kernel
theorem dX4_run_80 : decode cX4_run 80 = .ok (.goto (-75), 3) := by decide +kernel
theorem dX4_run_83 : decode cX4_run 83 = .ok (.sipush (-500), 3) := by decide +kernel
theorem dX4_run_86 : decode cX4_run 86 = .ok (.ireturn, 1) := by decide +kernel
theorem dX4_carryOut_0 : decode cX4_carryOut 0 = .ok (.aload_n 0, 1) := by decide +kernel
theorem dX4_carryOut_1 : decode cX4_carryOut 1 = .ok (.iload_n 2, 1) := by decide +kernel
theorem dX4_carryOut_2 : decode cX4_carryOut 2 = .ok (.iconst 0, 1) := by decide +kernel
theorem dX4_carryOut_3 : decode cX4_carryOut 3 = .ok (.invokevirtual 69, 3) := by decide +kernel
theorem dX4_carryOut_6 : decode cX4_carryOut 6 = .ok (.istore_n 3, 1) := by decide +kernel
theorem dX4_carryOut_7 : decode cX4_carryOut 7 = .ok (.aload_n 0, 1) := by decide +kernel
theorem dX4_carryOut_8 : decode cX4_carryOut 8 = .ok (.iload_n 2, 1) := by decide +kernel
theorem dX4_carryOut_9 : decode cX4_carryOut 9 = .ok (.iconst 1, 1) := by decide +kernel
theorem dX4_carryOut_10 : decode cX4_carryOut 10 = .ok (.invokevirtual 69, 3) := by decide +kernel
theorem dX4_carryOut_13 : decode cX4_carryOut 13 = .ok (.istore 4, 2) := by decide +kernel
theorem dX4_carryOut_15 : decode cX4_carryOut 15 = .ok (.aload_n 0, 1) := by decide +kernel
theorem dX4_carryOut_16 : decode cX4_carryOut 16 = .ok (.iload_n 2, 1) := by decide +kernel
theorem dX4_carryOut_17 : decode cX4_carryOut 17 = .ok (.iconst 2, 1) := by decide +kernel
theorem dX4_carryOut_18 : decode cX4_carryOut 18 = .ok (.invokevirtual 69, 3) := by decide +kernel
theorem dX4_carryOut_21 : decode cX4_carryOut 21 = .ok (.istore 5, 2) := by decide +kernel
theorem dX4_carryOut_23 : decode cX4_carryOut 23 = .ok (.aload_n 0, 1) := by decide +kernel
theorem dX4_carryOut_24 : decode cX4_carryOut 24 = .ok (.iload_n 2, 1) := by decide +kernel
theorem dX4_carryOut_25 : decode cX4_carryOut 25 = .ok (.invokevirtual 80, 3) := by decide +kernel
theorem dX4_carryOut_28 : decode cX4_carryOut 28 = .ok (.tableswitch 206 98 122 #[184, 138, 174, 124, 206, 206, 206, 206, 200, 206, 164, 116, 206, 206, 206, 206, 206, 130, 206, 206, 146, 154, 206, 206, 194], 116) := by decide +kernel
theorem dX4_carryOut_144 : decode cX4_carryOut 144 = .ok (.aload_n 1, 1) := by decide +kernel
theorem dX4_carryOut_145 : decode cX4_carryOut 145 = .ok (.iload_n 3, 1) := by decide +kernel
theorem dX4_carryOut_146 : decode cX4_carryOut 146 = .ok (.iload 4, 2) := by decide +kernel
theorem dX4_carryOut_148 : decode cX4_carryOut 148 = .ok (.invokevirtual 83, 3) := by decide +kernel
theorem dX4_carryOut_151 : decode cX4_carryOut 151 = .ok (.ireturn, 1) := by decide +kernel
theorem dX4_carryOut_152 : decode cX4_carryOut 152 = .ok (.aload_n 1, 1) := by decide +kernel
theorem dX4_carryOut_153 : decode cX4_carryOut 153 = .ok (.iload_n 3, 1) := by decide +kernel
theorem dX4_carryOut_154 : decode cX4_carryOut 154 = .ok (.invokevirtual 88, 3) := by decide +kernel
theorem dX4_carryOut_157 : decode cX4_carryOut 157 = .ok (.ireturn, 1) := by decide +kernel
theorem dX4_carryOut_158 : decode cX4_carryOut 158 = .ok (.aload_n 1, 1) := by decide +kernel
theorem dX4_carryOut_159 : decode cX4_carryOut 159 = .ok (.iload_n 3, 1) := by decide +kernel
theorem dX4_carryOut_160 : decode cX4_carryOut 160 = .ok (.iload 4, 2) := by decide +kernel
theorem dX4_carryOut_162 : decode cX4_carryOut 162 = .ok (.invokevirtual 91, 3) := by decide +kernel
theorem dX4_carryOut_165 : decode cX4_carryOut 165 = .ok (.ireturn, 1) := by decide +kernel
theorem dX4_carryOut_166 : decode cX4_carryOut 166 = .ok (.aload_n 1, 1) := by decide +kernel
theorem dX4_carryOut_167 : decode cX4_carryOut 167 = .ok (.iload_n 3, 1) := by decide +kernel
theorem dX4_carryOut_168 : decode cX4_carryOut 168 = .ok (.iload 4, 2) := by decide +kernel
theorem dX4_carryOut_170 : decode cX4_carryOut 170 = .ok (.invokevirtual 94, 3) := by decide +kernel
theorem dX4_carryOut_173 : decode cX4_carryOut 173 = .ok (.ireturn, 1) := by decide +kernel
theorem dX4_carryOut_174 : decode cX4_carryOut 174 = .ok (.aload_n 1, 1) := by decide +kernel
theorem dX4_carryOut_175 : decode cX4_carryOut 175 = .ok (.iload_n 3, 1) := by decide +kernel
theorem dX4_carryOut_176 : decode cX4_carryOut 176 = .ok (.iload 4, 2) := by decide +kernel
theorem dX4_carryOut_178 : decode cX4_carryOut 178 = .ok (.invokevirtual 97, 3) := by decide +kernel
theorem dX4_carryOut_181 : decode cX4_carryOut 181 = .ok (.ireturn, 1) := by decide +kernel
theorem dX4_carryOut_182 : decode cX4_carryOut 182 = .ok (.aload_n 1, 1) := by decide +kernel
theorem dX4_carryOut_183 : decode cX4_carryOut 183 = .ok (.iload_n 3, 1) := by decide +kernel
theorem dX4_carryOut_184 : decode cX4_carryOut 184 = .ok (.iload 4, 2) := by decide +kernel
theorem dX4_carryOut_186 : decode cX4_carryOut 186 = .ok (.iload 5, 2) := by decide +kernel
theorem dX4_carryOut_188 : decode cX4_carryOut 188 = .ok (.invokevirtual 100, 3) := by decide +kernel
theorem dX4_carryOut_191 : decode cX4_carryOut 191 = .ok (.ireturn, 1) := by decide +kernel
theorem dX4_carryOut_192 : decode cX4_carryOut 192 = .ok (.aload_n 1, 1) := by decide +kernel
theorem dX4_carryOut_193 : decode cX4_carryOut 193 = .ok (.iload_n 3, 1) := by decide +kernel
theorem dX4_carryOut_194 : decode cX4_carryOut 194 = .ok (.iload 4, 2) := by decide +kernel
theorem dX4_carryOut_196 : decode cX4_carryOut 196 = .ok (.iload 5, 2) := by decide +kernel
theorem dX4_carryOut_198 : decode cX4_carryOut 198 = .ok (.invokevirtual 104, 3) := by decide +kernel
theorem dX4_carryOut_201 : decode cX4_carryOut 201 = .ok (.ireturn, 1) := by decide +kernel
theorem dX4_carryOut_202 : decode cX4_carryOut 202 = .ok (.aload_n 1, 1) := by decide +kernel
theorem dX4_carryOut_203 : decode cX4_carryOut 203 = .ok (.iload_n 3, 1) := by decide +kernel
theorem dX4_carryOut_204 : decode cX4_carryOut 204 = .ok (.iload 4, 2) := by decide +kernel
theorem dX4_carryOut_206 : decode cX4_carryOut 206 = .ok (.iload 5, 2) := by decide +kernel
theorem dX4_carryOut_208 : decode cX4_carryOut 208 = .ok (.invokevirtual 107, 3) := by decide +kernel
theorem dX4_carryOut_211 : decode cX4_carryOut 211 = .ok (.ireturn, 1) := by decide +kernel
theorem dX4_carryOut_212 : decode cX4_carryOut 212 = .ok (.aload_n 1, 1) := by decide +kernel
theorem dX4_carryOut_213 : decode cX4_carryOut 213 = .ok (.iload_n 3, 1) := by decide +kernel
theorem dX4_carryOut_214 : decode cX4_carryOut 214 = .ok (.iload 4, 2) := by decide +kernel
theorem dX4_carryOut_216 : decode cX4_carryOut 216 = .ok (.iload 5, 2) := by decide +kernel
theorem dX4_carryOut_218 : decode cX4_carryOut 218 = .ok (.invokevirtual 110, 3) := by decide +kernel
theorem dX4_carryOut_221 : decode cX4_carryOut 221 = .ok (.ireturn, 1) := by decide +kernel
theorem dX4_carryOut_222 : decode cX4_carryOut 222 = .ok (.aload_n 1, 1) := by decide +kernel
theorem dX4_carryOut_223 : decode cX4_carryOut 223 = .ok (.iload_n 3, 1) := by decide +kernel
theorem dX4_carryOut_224 : decode cX4_carryOut 224 = .ok (.invokevirtual 113, 3) := by decide +kernel
theorem dX4_carryOut_227 : decode cX4_carryOut 227 = .ok (.ireturn, 1) := by decide +kernel
theorem dX4_carryOut_228 : decode cX4_carryOut 228 = .ok (.aload_n 1, 1) := by decide +kernel
theorem dX4_carryOut_229 : decode cX4_carryOut 229 = .ok (.iload_n 3, 1) := by decide +kernel
theorem dX4_carryOut_230 : decode cX4_carryOut 230 = .ok (.invokevirtual 116, 3) := by decide +kernel
theorem dX4_carryOut_233 : decode cX4_carryOut 233 = .ok (.ireturn, 1) := by decide +kernel
theorem dX4_carryOut_234 : decode cX4_carryOut 234 = .ok (.bipush (-2), 2) := by decide +kernel
theorem dX4_carryOut_236 : decode cX4_carryOut 236 = .ok (.ireturn, 1) := by decide +kernel
theorem dX4_failure_0 : decode cX4_failure 0 = .ok (.iload_n 0, 1) := by decide +kernel
theorem dX4_failure_1 : decode cX4_failure 1 = .ok (.bipush (-2), 2) := by decide +kernel
theorem dX4_failure_3 : decode cX4_failure 3 = .ok (.if_icmp .ne 9, 3) := by decide +kernel
theorem dX4_failure_6 : decode cX4_failure 6 = .ok (.sipush (-2000), 3) := by decide +kernel
theorem dX4_failure_9 : decode cX4_failure 9 = .ok (.iload_n 1, 1) := by decide +kernel
theorem dX4_failure_10 : decode cX4_failure 10 = .ok (.isub, 1) := by decide +kernel
theorem dX4_failure_11 : decode cX4_failure 11 = .ok (.ireturn, 1) := by decide +kernel
theorem dX4_failure_12 : decode cX4_failure 12 = .ok (.iload_n 0, 1) := by decide +kernel
theorem dX4_failure_13 : decode cX4_failure 13 = .ok (.bipush (-4), 2) := by decide +kernel
theorem dX4_failure_15 : decode cX4_failure 15 = .ok (.if_icmp .ne 9, 3) := by decide +kernel
theorem dX4_failure_18 : decode cX4_failure 18 = .ok (.sipush (-3000), 3) := by decide +kernel
theorem dX4_failure_21 : decode cX4_failure 21 = .ok (.iload_n 1, 1) := by decide +kernel
theorem dX4_failure_22 : decode cX4_failure 22 = .ok (.isub, 1) := by decide +kernel
theorem dX4_failure_23 : decode cX4_failure 23 = .ok (.ireturn, 1) := by decide +kernel
theorem dX4_failure_24 : decode cX4_failure 24 = .ok (.bipush (-10), 2) := by decide +kernel
theorem dX4_failure_26 : decode cX4_failure 26 = .ok (.iload_n 0, 1) := by decide +kernel
theorem dX4_failure_27 : decode cX4_failure 27 = .ok (.isub, 1) := by decide +kernel
theorem dX4_failure_28 : decode cX4_failure 28 = .ok (.istore_n 2, 1) := by decide +kernel
theorem dX4_failure_29 : decode cX4_failure 29 = .ok (.sipush (-4000), 3) := by decide +kernel
theorem dX4_failure_32 : decode cX4_failure 32 = .ok (.sipush 1000, 3) := by decide +kernel
theorem dX4_failure_35 : decode cX4_failure 35 = .ok (.iload_n 2, 1) := by decide +kernel
theorem dX4_failure_36 : decode cX4_failure 36 = .ok (.imul, 1) := by decide +kernel
theorem dX4_failure_37 : decode cX4_failure 37 = .ok (.isub, 1) := by decide +kernel
theorem dX4_failure_38 : decode cX4_failure 38 = .ok (.iload_n 1, 1) := by decide +kernel
theorem dX4_failure_39 : decode cX4_failure 39 = .ok (.isub, 1) := by decide +kernel
theorem dX4_failure_40 : decode cX4_failure 40 = .ok (.ireturn, 1) := by decide +kernel
theorem dX5_init_0 : decode cX5_init 0 = .ok (.aload_n 0, 1) := by decide +kernel
theorem dX5_init_1 : decode cX5_init 1 = .ok (.invokespecial 3, 3) := by decide +kernel
theorem dX5_init_4 : decode cX5_init 4 = .ok (.aload_n 0, 1) := by decide +kernel
theorem dX5_init_5 : decode cX5_init 5 = .ok (.bipush 6, 2) := by decide +kernel
theorem dX5_init_7 : decode cX5_init 7 = .ok (.newarray .int, 2) := by decide +kernel
theorem dX5_init_9 : decode cX5_init 9 = .ok (.putfield 9, 3) := by decide +kernel
theorem dX5_init_12 : decode cX5_init 12 = .ok (.aload_n 0, 1) := by decide +kernel
theorem dX5_init_13 : decode cX5_init 13 = .ok (.bipush 6, 2) := by decide +kernel
theorem dX5_init_15 : decode cX5_init 15 = .ok (.newarray .int, 2) := by decide +kernel
theorem dX5_init_17 : decode cX5_init 17 = .ok (.putfield 15, 3) := by decide +kernel
theorem dX5_init_20 : decode cX5_init 20 = .ok (.aload_n 0, 1) := by decide +kernel
theorem dX5_init_21 : decode cX5_init 21 = .ok (.bipush 6, 2) := by decide +kernel
theorem dX5_init_23 : decode cX5_init 23 = .ok (.newarray .int, 2) := by decide +kernel
theorem dX5_init_25 : decode cX5_init 25 = .ok (.putfield 18, 3) := by decide +kernel
theorem dX5_init_28 : decode cX5_init 28 = .ok (.aload_n 0, 1) := by decide +kernel
theorem dX5_init_29 : decode cX5_init 29 = .ok (.bipush 10, 2) := by decide +kernel
theorem dX5_init_31 : decode cX5_init 31 = .ok (.newarray .int, 2) := by decide +kernel
theorem dX5_init_33 : decode cX5_init 33 = .ok (.putfield 21, 3) := by decide +kernel
theorem dX5_init_36 : decode cX5_init 36 = .ok (.aload_n 0, 1) := by decide +kernel
theorem dX5_init_37 : decode cX5_init 37 = .ok (.bipush 10, 2) := by decide +kernel
theorem dX5_init_39 : decode cX5_init 39 = .ok (.newarray .int, 2) := by decide +kernel
theorem dX5_init_41 : decode cX5_init 41 = .ok (.putfield 24, 3) := by decide +kernel
theorem dX5_init_44 : decode cX5_init 44 = .ok (.aload_n 0, 1) := by decide +kernel
theorem dX5_init_45 : decode cX5_init 45 = .ok (.bipush 10, 2) := by decide +kernel
theorem dX5_init_47 : decode cX5_init 47 = .ok (.newarray .int, 2) := by decide +kernel
theorem dX5_init_49 : decode cX5_init 49 = .ok (.putfield 27, 3) := by decide +kernel
theorem dX5_init_52 : decode cX5_init 52 = .ok (.aload_n 0, 1) := by decide +kernel
theorem dX5_init_53 : decode cX5_init 53 = .ok (.bipush 120, 2) := by decide +kernel
theorem dX5_init_55 : decode cX5_init 55 = .ok (.newarray .int, 2) := by decide +kernel
theorem dX5_init_57 : decode cX5_init 57 = .ok (.putfield 30, 3) := by decide +kernel
theorem dX5_init_60 : decode cX5_init 60 = .ok (.aload_n 0, 1) := by decide +kernel
theorem dX5_init_61 : decode cX5_init 61 = .ok (.bipush 40, 2) := by decide +kernel
theorem dX5_init_63 : decode cX5_init 63 = .ok (.putfield 33, 3) := by decide +kernel
theorem dX5_init_66 : decode cX5_init 66 = .ok (.return_, 1) := by decide +kernel
theorem dX5_become_0 : decode cX5_become 0 = .ok (.aload_n 1, 1) := by decide +kernel
theorem dX5_become_1 : decode cX5_become 1 = .ok (.getfield 9, 3) := by decide +kernel
theorem dX5_become_4 : decode cX5_become 4 = .ok (.iconst 0, 1) := by decide +kernel
theorem dX5_become_5 : decode cX5_become 5 = .ok (.aload_n 0, 1) := by decide +kernel
theorem dX5_become_6 : decode cX5_become 6 = .ok (.getfield 9, 3) := by decide +kernel
theorem dX5_become_9 : decode cX5_become 9 = .ok (.iconst 0, 1) := by decide +kernel
theorem dX5_become_10 : decode cX5_become 10 = .ok (.bipush 6, 2) := by decide +kernel
theorem dX5_become_12 : decode cX5_become 12 = .ok (.invokestatic 37, 3) := by decide +kernel
theorem dX5_become_15 : decode cX5_become 15 = .ok (.aload_n 1, 1) := by decide +kernel
theorem dX5_become_16 : decode cX5_become 16 = .ok (.getfield 15, 3) := by decide +kernel
theorem dX5_become_19 : decode cX5_become 19 = .ok (.iconst 0, 1) := by decide +kernel
theorem dX5_become_20 : decode cX5_become 20 = .ok (.aload_n 0, 1) := by decide +kernel
theorem dX5_become_21 : decode cX5_become 21 = .ok (.getfield 15, 3) := by decide +kernel
theorem dX5_become_24 : decode cX5_become 24 = .ok (.iconst 0, 1) := by decide +kernel
theorem dX5_become_25 : decode cX5_become 25 = .ok (.bipush 6, 2) := by decide +kernel
theorem dX5_become_27 : decode cX5_become 27 = .ok (.invokestatic 37, 3) := by decide +kernel
theorem dX5_become_30 : decode cX5_become 30 = .ok (.aload_n 1, 1) := by decide +kernel
theorem dX5_become_31 : decode cX5_become 31 = .ok (.getfield 18, 3) := by decide +kernel
theorem dX5_become_34 : decode cX5_become 34 = .ok (.iconst 0, 1) := by decide +kernel
theorem dX5_become_35 : decode cX5_become 35 = .ok (.aload_n 0, 1) := by decide +kernel
theorem dX5_become_36 : decode cX5_become 36 = .ok (.getfield 18, 3) := by decide +kernel
theorem dX5_become_39 : decode cX5_become 39 = .ok (.iconst 0, 1) := by decide +kernel
theorem dX5_become_40 : decode cX5_become 40 = .ok (.bipush 6, 2) := by decide +kernel
theorem dX5_become_42 : decode cX5_become 42 = .ok (.invokestatic 37, 3) := by decide +kernel
theorem dX5_become_45 : decode cX5_become 45 = .ok (.aload_n 1, 1) := by decide +kernel
theorem dX5_become_46 : decode cX5_become 46 = .ok (.getfield 21, 3) := by decide +kernel
theorem dX5_become_49 : decode cX5_become 49 = .ok (.iconst 0, 1) := by decide +kernel
theorem dX5_become_50 : decode cX5_become 50 = .ok (.aload_n 0, 1) := by decide +kernel
theorem dX5_become_51 : decode cX5_become 51 = .ok (.getfield 21, 3) := by decide +kernel
theorem dX5_become_54 : decode cX5_become 54 = .ok (.iconst 0, 1) := by decide +kernel
theorem dX5_become_55 : decode cX5_become 55 = .ok (.bipush 10, 2) := by decide +kernel
theorem dX5_become_57 : decode cX5_become 57 = .ok (.invokestatic 37, 3) := by decide +kernel
theorem dX5_become_60 : decode cX5_become 60 = .ok (.aload_n 1, 1) := by decide +kernel
theorem dX5_become_61 : decode cX5_become 61 = .ok (.getfield 24, 3) := by decide +kernel
theorem dX5_become_64 : decode cX5_become 64 = .ok (.iconst 0, 1) := by decide +kernel
theorem dX5_become_65 : decode cX5_become 65 = .ok (.aload_n 0, 1) := by decide +kernel
theorem dX5_become_66 : decode cX5_become 66 = .ok (.getfield 24, 3) := by decide +kernel
theorem dX5_become_69 : decode cX5_become 69 = .ok (.iconst 0, 1) := by decide +kernel
theorem dX5_become_70 : decode cX5_become 70 = .ok (.bipush 10, 2) := by decide +kernel
theorem dX5_become_72 : decode cX5_become 72 = .ok (.invokestatic 37, 3) := by decide +kernel
theorem dX5_become_75 : decode cX5_become 75 = .ok (.aload_n 1, 1) := by decide +kernel
theorem dX5_become_76 : decode cX5_become 76 = .ok (.getfield 27, 3) := by decide +kernel
theorem dX5_become_79 : decode cX5_become 79 = .ok (.iconst 0, 1) := by decide +kernel
theorem dX5_become_80 : decode cX5_become 80 = .ok (.aload_n 0, 1) := by decide +kernel
theorem dX5_become_81 : decode cX5_become 81 = .ok (.getfield 27, 3) := by decide +kernel
theorem dX5_become_84 : decode cX5_become 84 = .ok (.iconst 0, 1) := by decide +kernel
theorem dX5_become_85 : decode cX5_become 85 = .ok (.bipush 10, 2) := by decide +kernel
theorem dX5_become_87 : decode cX5_become 87 = .ok (.invokestatic 37, 3) := by decide +kernel
theorem dX5_become_90 : decode cX5_become 90 = .ok (.aload_n 1, 1) := by decide +kernel
theorem dX5_become_91 : decode cX5_become 91 = .ok (.getfield 30, 3) := by decide +kernel
theorem dX5_become_94 : decode cX5_become 94 = .ok (.iconst 0, 1) := by decide +kernel
theorem dX5_become_95 : decode cX5_become 95 = .ok (.aload_n 0, 1) := by decide +kernel
theorem dX5_become_96 : decode cX5_become 96 = .ok (.getfield 30, 3) := by decide +kernel
theorem dX5_become_99 : decode cX5_become 99 = .ok (.iconst 0, 1) := by decide +kernel
theorem dX5_become_100 : decode cX5_become 100 = .ok (.bipush 120, 2) := by decide +kernel
theorem dX5_become_102 : decode cX5_become 102 = .ok (.invokestatic 37, 3) := by decide +kernel
theorem dX5_become_105 : decode cX5_become 105 = .ok (.aload_n 0, 1) := by decide +kernel
theorem dX5_become_106 : decode cX5_become 106 = .ok (.aload_n 1, 1) := by decide +kernel
theorem dX5_become_107 : decode cX5_become 107 = .ok (.getfield 43, 3) := by decide +kernel
theorem dX5_become_110 : decode cX5_become 110 = .ok (.putfield 43, 3) := by decide +kernel
theorem dX5_become_113 : decode cX5_become 113 = .ok (.aload_n 0, 1) := by decide +kernel
theorem dX5_become_114 : decode cX5_become 114 = .ok (.aload_n 1, 1) := by decide +kernel
theorem dX5_become_115 : decode cX5_become 115 = .ok (.getfield 46, 3) := by decide +kernel
theorem dX5_become_118 : decode cX5_become 118 = .ok (.putfield 46, 3) := by decide +kernel
theorem dX5_become_121 : decode cX5_become 121 = .ok (.aload_n 0, 1) := by decide +kernel
theorem dX5_become_122 : decode cX5_become 122 = .ok (.aload_n 1, 1) := by decide +kernel
theorem dX5_become_123 : decode cX5_become 123 = .ok (.getfield 33, 3) := by decide +kernel
theorem dX5_become_126 : decode cX5_become 126 = .ok (.putfield 33, 3) := by decide +kernel
theorem dX5_become_129 : decode cX5_become 129 = .ok (.return_, 1) := by decide +kernel
theorem dX5_isBlock_0 : decode cX5_isBlock 0 = .ok (.iload_n 1, 1) := by decide +kernel
theorem dX5_isBlock_1 : decode cX5_isBlock 1 = .ok (.ifCond .lt 21, 3) := by decide +kernel
theorem dX5_isBlock_4 : decode cX5_isBlock 4 = .ok (.iload_n 1, 1) := by decide +kernel
theorem dX5_isBlock_5 : decode cX5_isBlock 5 = .ok (.aload_n 0, 1) := by decide +kernel
theorem dX5_isBlock_6 : decode cX5_isBlock 6 = .ok (.getfield 43, 3) := by decide +kernel
theorem dX5_isBlock_9 : decode cX5_isBlock 9 = .ok (.if_icmp .ge 13, 3) := by decide +kernel
theorem dX5_isBlock_12 : decode cX5_isBlock 12 = .ok (.iload_n 1, 1) := by decide +kernel
theorem dX5_isBlock_13 : decode cX5_isBlock 13 = .ok (.bipush 10, 2) := by decide +kernel
theorem dX5_isBlock_15 : decode cX5_isBlock 15 = .ok (.if_icmp .ge 7, 3) := by decide +kernel
theorem dX5_isBlock_18 : decode cX5_isBlock 18 = .ok (.iconst 1, 1) := by decide +kernel
theorem dX5_isBlock_19 : decode cX5_isBlock 19 = .ok (.goto 4, 3) := by decide +kernel
theorem dX5_isBlock_22 : decode cX5_isBlock 22 = .ok (.iconst 0, 1) := by decide +kernel
theorem dX5_isBlock_23 : decode cX5_isBlock 23 = .ok (.ireturn, 1) := by decide +kernel
theorem dX5_isImage_0 : decode cX5_isImage 0 = .ok (.iload_n 1, 1) := by decide +kernel
theorem dX5_isImage_1 : decode cX5_isImage 1 = .ok (.ifCond .lt 15, 3) := by decide +kernel
theorem dX5_isImage_4 : decode cX5_isImage 4 = .ok (.iload_n 1, 1) := by decide +kernel
theorem dX5_isImage_5 : decode cX5_isImage 5 = .ok (.aload_n 0, 1) := by decide +kernel
theorem dX5_isImage_6 : decode cX5_isImage 6 = .ok (.getfield 46, 3) := by decide +kernel
theorem dX5_isImage_9 : decode cX5_isImage 9 = .ok (.if_icmp .ge 7, 3) := by decide +kernel
theorem dX5_isImage_12 : decode cX5_isImage 12 = .ok (.iconst 1, 1) := by decide +kernel
theorem dX5_isImage_13 : decode cX5_isImage 13 = .ok (.goto 4, 3) := by decide +kernel
theorem dX5_isImage_16 : decode cX5_isImage 16 = .ok (.iconst 0, 1) := by decide +kernel
theorem dX5_isImage_17 : decode cX5_isImage 17 = .ok (.ireturn, 1) := by decide +kernel
theorem dX5_kindOf_0 : decode cX5_kindOf 0 = .ok (.iload_n 1, 1) := by decide +kernel
theorem dX5_kindOf_1 : decode cX5_kindOf 1 = .ok (.ifCond .lt 18, 3) := by decide +kernel
theorem dX5_kindOf_4 : decode cX5_kindOf 4 = .ok (.iload_n 1, 1) := by decide +kernel
theorem dX5_kindOf_5 : decode cX5_kindOf 5 = .ok (.bipush 6, 2) := by decide +kernel
theorem dX5_kindOf_7 : decode cX5_kindOf 7 = .ok (.if_icmp .ge 12, 3) := by decide +kernel
theorem dX5_kindOf_10 : decode cX5_kindOf 10 = .ok (.aload_n 0, 1) := by decide +kernel
theorem dX5_kindOf_11 : decode cX5_kindOf 11 = .ok (.getfield 9, 3) := by decide +kernel
theorem dX5_kindOf_14 : decode cX5_kindOf 14 = .ok (.iload_n 1, 1) := by decide +kernel
theorem dX5_kindOf_15 : decode cX5_kindOf 15 = .ok (.iaload, 1) := by decide +kernel
theorem dX5_kindOf_16 : decode cX5_kindOf 16 = .ok (.goto 4, 3) := by decide +kernel
theorem dX5_kindOf_19 : decode cX5_kindOf 19 = .ok (.iconst 0, 1) := by decide +kernel
theorem dX5_kindOf_20 : decode cX5_kindOf 20 = .ok (.ireturn, 1) := by decide +kernel
theorem dX5_valueOf_0 : decode cX5_valueOf 0 = .ok (.iload_n 1, 1) := by decide +kernel
theorem dX5_valueOf_1 : decode cX5_valueOf 1 = .ok (.ifCond .lt 18, 3) := by decide +kernel
theorem dX5_valueOf_4 : decode cX5_valueOf 4 = .ok (.iload_n 1, 1) := by decide +kernel
theorem dX5_valueOf_5 : decode cX5_valueOf 5 = .ok (.bipush 6, 2) := by decide +kernel
theorem dX5_valueOf_7 : decode cX5_valueOf 7 = .ok (.if_icmp .ge 12, 3) := by decide +kernel
theorem dX5_valueOf_10 : decode cX5_valueOf 10 = .ok (.aload_n 0, 1) := by decide +kernel
theorem dX5_valueOf_11 : decode cX5_valueOf 11 = .ok (.getfield 15, 3) := by decide +kernel
theorem dX5_valueOf_14 : decode cX5_valueOf 14 = .ok (.iload_n 1, 1) := by decide +kernel
theorem dX5_valueOf_15 : decode cX5_valueOf 15 = .ok (.iaload, 1) := by decide +kernel
theorem dX5_valueOf_16 : decode cX5_valueOf 16 = .ok (.goto 4, 3) := by decide +kernel
theorem dX5_valueOf_19 : decode cX5_valueOf 19 = .ok (.iconst (-1), 1) := by decide +kernel
theorem dX5_valueOf_20 : decode cX5_valueOf 20 = .ok (.ireturn, 1) := by decide +kernel
theorem dX5_offsetOf_0 : decode cX5_offsetOf 0 = .ok (.iload_n 1, 1) := by decide +kernel
theorem dX5_offsetOf_1 : decode cX5_offsetOf 1 = .ok (.ifCond .lt 18, 3) := by decide +kernel
theorem dX5_offsetOf_4 : decode cX5_offsetOf 4 = .ok (.iload_n 1, 1) := by decide +kernel
theorem dX5_offsetOf_5 : decode cX5_offsetOf 5 = .ok (.bipush 6, 2) := by decide +kernel
theorem dX5_offsetOf_7 : decode cX5_offsetOf 7 = .ok (.if_icmp .ge 12, 3) := by decide +kernel
theorem dX5_offsetOf_10 : decode cX5_offsetOf 10 = .ok (.aload_n 0, 1) := by decide +kernel
theorem dX5_offsetOf_11 : decode cX5_offsetOf 11 = .ok (.getfield 18, 3) := by decide +kernel
theorem dX5_offsetOf_14 : decode cX5_offsetOf 14 = .ok (.iload_n 1, 1) := by decide +kernel
theorem dX5_offsetOf_15 : decode cX5_offsetOf 15 = .ok (.iaload, 1) := by decide +kernel
theorem dX5_offsetOf_16 : decode cX5_offsetOf 16 = .ok (.goto 4, 3) := by decide +kernel
theorem dX5_offsetOf_19 : decode cX5_offsetOf 19 = .ok (.iconst (-1), 1) := by decide +kernel
theorem dX5_offsetOf_20 : decode cX5_offsetOf 20 = .ok (.ireturn, 1) := by decide +kernel
theorem dX5_fillRegister_0 : decode cX5_fillRegister 0 = .ok (.iload_n 1, 1) := by decide +kernel
theorem dX5_fillRegister_1 : decode cX5_fillRegister 1 = .ok (.ifCond .lt 31, 3) := by decide +kernel
theorem dX5_fillRegister_4 : decode cX5_fillRegister 4 = .ok (.iload_n 1, 1) := by decide +kernel
theorem dX5_fillRegister_5 : decode cX5_fillRegister 5 = .ok (.bipush 6, 2) := by decide +kernel
theorem dX5_fillRegister_7 : decode cX5_fillRegister 7 = .ok (.if_icmp .ge 25, 3) := by decide +kernel
theorem dX5_fillRegister_10 : decode cX5_fillRegister 10 = .ok (.aload_n 0, 1) := by decide +kernel
theorem dX5_fillRegister_11 : decode cX5_fillRegister 11 = .ok (.getfield 9, 3) := by decide +kernel
theorem dX5_fillRegister_14 : decode cX5_fillRegister 14 = .ok (.iload_n 1, 1) := by decide +kernel
theorem dX5_fillRegister_15 : decode cX5_fillRegister 15 = .ok (.iload_n 2, 1) := by decide +kernel
theorem dX5_fillRegister_16 : decode cX5_fillRegister 16 = .ok (.iastore, 1) := by decide +kernel
theorem dX5_fillRegister_17 : decode cX5_fillRegister 17 = .ok (.aload_n 0, 1) := by decide +kernel
theorem dX5_fillRegister_18 : decode cX5_fillRegister 18 = .ok (.getfield 15, 3) := by decide +kernel
theorem dX5_fillRegister_21 : decode cX5_fillRegister 21 = .ok (.iload_n 1, 1) := by decide +kernel
theorem dX5_fillRegister_22 : decode cX5_fillRegister 22 = .ok (.iload_n 3, 1) := by decide +kernel
theorem dX5_fillRegister_23 : decode cX5_fillRegister 23 = .ok (.iastore, 1) := by decide +kernel
theorem dX5_fillRegister_24 : decode cX5_fillRegister 24 = .ok (.aload_n 0, 1) := by decide +kernel
theorem dX5_fillRegister_25 : decode cX5_fillRegister 25 = .ok (.getfield 18, 3) := by decide +kernel
theorem dX5_fillRegister_28 : decode cX5_fillRegister 28 = .ok (.iload_n 1, 1) := by decide +kernel
theorem dX5_fillRegister_29 : decode cX5_fillRegister 29 = .ok (.iload 4, 2) := by decide +kernel
theorem dX5_fillRegister_31 : decode cX5_fillRegister 31 = .ok (.iastore, 1) := by decide +kernel
theorem dX5_fillRegister_32 : decode cX5_fillRegister 32 = .ok (.return_, 1) := by decide +kernel
theorem dX5_fillWithNumber_0 : decode cX5_fillWithNumber 0 = .ok (.aload_n 0, 1) := by decide +kernel
theorem dX5_fillWithNumber_1 : decode cX5_fillWithNumber 1 = .ok (.iload_n 1, 1) := by decide +kernel
theorem dX5_fillWithNumber_2 : decode cX5_fillWithNumber 2 = .ok (.iconst 1, 1) := by decide +kernel
theorem dX5_fillWithNumber_3 : decode cX5_fillWithNumber 3 = .ok (.iload_n 2, 1) := by decide +kernel
theorem dX5_fillWithNumber_4 : decode cX5_fillWithNumber 4 = .ok (.iconst (-1), 1) := by decide +kernel
theorem dX5_fillWithNumber_5 : decode cX5_fillWithNumber 5 = .ok (.invokevirtual 49, 3) := by decide +kernel
theorem dX5_fillWithNumber_8 : decode cX5_fillWithNumber 8 = .ok (.return_, 1) := by decide +kernel
theorem dX5_fillWithPointer_0 : decode cX5_fillWithPointer 0 = .ok (.aload_n 0, 1) := by decide +kernel
theorem dX5_fillWithPointer_1 : decode cX5_fillWithPointer 1 = .ok (.iload_n 1, 1) := by decide +kernel
theorem dX5_fillWithPointer_2 : decode cX5_fillWithPointer 2 = .ok (.iconst 2, 1) := by decide +kernel
theorem dX5_fillWithPointer_3 : decode cX5_fillWithPointer 3 = .ok (.iload_n 2, 1) := by decide +kernel
theorem dX5_fillWithPointer_4 : decode cX5_fillWithPointer 4 = .ok (.iload_n 3, 1) := by decide +kernel
theorem dX5_fillWithPointer_5 : decode cX5_fillWithPointer 5 = .ok (.invokevirtual 49, 3) := by decide +kernel
theorem dX5_fillWithPointer_8 : decode cX5_fillWithPointer 8 = .ok (.return_, 1) := by decide +kernel
theorem dX5_registerProperty_0 : decode cX5_registerProperty 0 = .ok (.iload_n 1, 1) := by decide +kernel
theorem dX5_registerProperty_1 : decode cX5_registerProperty 1 = .ok (.invokestatic 53, 3) := by decide +kernel
theorem dX5_registerProperty_4 : decode cX5_registerProperty 4 = .ok (.ifCond .ne 6, 3) := by decide +kernel
theorem dX5_registerProperty_7 : decode cX5_registerProperty 7 = .ok (.bipush (-2), 2) := by decide +kernel
theorem dX5_registerProperty_9 : decode cX5_registerProperty 9 = .ok (.ireturn, 1) := by decide +kernel
theorem dX5_registerProperty_10 : decode cX5_registerProperty 10 = .ok (.iload_n 2, 1) := by decide +kernel
theorem dX5_registerProperty_11 : decode cX5_registerProperty 11 = .ok (.tableswitch 73 0 2 #[25, 32, 52], 25) := by decide +kernel
theorem dX5_registerProperty_36 : decode cX5_registerProperty 36 = .ok (.aload_n 0, 1) := by decide +kernel
theorem dX5_registerProperty_37 : decode cX5_registerProperty 37 = .ok (.getfield 9, 3) := by decide +kernel
theorem dX5_registerProperty_40 : decode cX5_registerProperty 40 = .ok (.iload_n 1, 1) := by decide +kernel
theorem dX5_registerProperty_41 : decode cX5_registerProperty 41 = .ok (.iaload, 1) := by decide +kernel
theorem dX5_registerProperty_42 : decode cX5_registerProperty 42 = .ok (.ireturn, 1) := by decide +kernel
theorem dX5_registerProperty_43 : decode cX5_registerProperty 43 = .ok (.aload_n 0, 1) := by decide +kernel
theorem dX5_registerProperty_44 : decode cX5_registerProperty 44 = .ok (.getfield 9, 3) := by decide +kernel
theorem dX5_registerProperty_47 : decode cX5_registerProperty 47 = .ok (.iload_n 1, 1) := by decide +kernel
theorem dX5_registerProperty_48 : decode cX5_registerProperty 48 = .ok (.iaload, 1) := by decide +kernel
theorem dX5_registerProperty_49 : decode cX5_registerProperty 49 = .ok (.ifCond .ne 7, 3) := by decide +kernel
theorem dX5_registerProperty_52 : decode cX5_registerProperty 52 = .ok (.iconst (-1), 1) := by decide +kernel
theorem dX5_registerProperty_53 : decode cX5_registerProperty 53 = .ok (.goto 9, 3) := by decide +kernel
theorem dX5_registerProperty_56 : decode cX5_registerProperty 56 = .ok (.aload_n 0, 1) := by decide +kernel
theorem dX5_registerProperty_57 : decode cX5_registerProperty 57 = .ok (.getfield 15, 3) := by decide +kernel
theorem dX5_registerProperty_60 : decode cX5_registerProperty 60 = .ok (.iload_n 1, 1) := by decide +kernel
theorem dX5_registerProperty_61 : decode cX5_registerProperty 61 = .ok (.iaload, 1) := by decide +kernel
theorem dX5_registerProperty_62 : decode cX5_registerProperty 62 = .ok (.ireturn, 1) := by decide +kernel
theorem dX5_registerProperty_63 : decode cX5_registerProperty 63 = .ok (.aload_n 0, 1) := by decide +kernel
theorem dX5_registerProperty_64 : decode cX5_registerProperty 64 = .ok (.getfield 9, 3) := by decide +kernel
theorem dX5_registerProperty_67 : decode cX5_registerProperty 67 = .ok (.iload_n 1, 1) := by decide +kernel
theorem dX5_registerProperty_68 : decode cX5_registerProperty 68 = .ok (.iaload, 1) := by decide +kernel
theorem dX5_registerProperty_69 : decode cX5_registerProperty 69 = .ok (.iconst 2, 1) := by decide +kernel
theorem dX5_registerProperty_70 : decode cX5_registerProperty 70 = .ok (.if_icmp .ne 12, 3) := by decide +kernel
theorem dX5_registerProperty_73 : decode cX5_registerProperty 73 = .ok (.aload_n 0, 1) := by decide +kernel
theorem dX5_registerProperty_74 : decode cX5_registerProperty 74 = .ok (.getfield 18, 3) := by decide +kernel
theorem dX5_registerProperty_77 : decode cX5_registerProperty 77 = .ok (.iload_n 1, 1) := by decide +kernel
theorem dX5_registerProperty_78 : decode cX5_registerProperty 78 = .ok (.iaload, 1) := by decide +kernel
theorem dX5_registerProperty_79 : decode cX5_registerProperty 79 = .ok (.goto 4, 3) := by decide +kernel
theorem dX5_registerProperty_82 : decode cX5_registerProperty 82 = .ok (.iconst (-1), 1) := by decide +kernel
theorem dX5_registerProperty_83 : decode cX5_registerProperty 83 = .ok (.ireturn, 1) := by decide +kernel
theorem dX5_registerProperty_84 : decode cX5_registerProperty 84 = .ok (.bipush (-2), 2) := by decide +kernel
theorem dX5_registerProperty_86 : decode cX5_registerProperty 86 = .ok (.ireturn, 1) := by decide +kernel
theorem dX5_addBlock_0 : decode cX5_addBlock 0 = .ok (.aload_n 0, 1) := by decide +kernel
theorem dX5_addBlock_1 : decode cX5_addBlock 1 = .ok (.getfield 43, 3) := by decide +kernel
theorem dX5_addBlock_4 : decode cX5_addBlock 4 = .ok (.istore_n 2, 1) := by decide +kernel
theorem dX5_addBlock_5 : decode cX5_addBlock 5 = .ok (.iload_n 2, 1) := by decide +kernel
theorem dX5_addBlock_6 : decode cX5_addBlock 6 = .ok (.ifCond .lt 58, 3) := by decide +kernel
theorem dX5_addBlock_9 : decode cX5_addBlock 9 = .ok (.iload_n 2, 1) := by decide +kernel
theorem dX5_addBlock_10 : decode cX5_addBlock 10 = .ok (.bipush 10, 2) := by decide +kernel
theorem dX5_addBlock_12 : decode cX5_addBlock 12 = .ok (.if_icmp .ge 52, 3) := by decide +kernel
theorem dX5_addBlock_15 : decode cX5_addBlock 15 = .ok (.aload_n 0, 1) := by decide +kernel
theorem dX5_addBlock_16 : decode cX5_addBlock 16 = .ok (.getfield 21, 3) := by decide +kernel
theorem dX5_addBlock_19 : decode cX5_addBlock 19 = .ok (.iload_n 2, 1) := by decide +kernel
theorem dX5_addBlock_20 : decode cX5_addBlock 20 = .ok (.iload_n 1, 1) := by decide +kernel
theorem dX5_addBlock_21 : decode cX5_addBlock 21 = .ok (.iastore, 1) := by decide +kernel
theorem dX5_addBlock_22 : decode cX5_addBlock 22 = .ok (.aload_n 0, 1) := by decide +kernel
theorem dX5_addBlock_23 : decode cX5_addBlock 23 = .ok (.getfield 24, 3) := by decide +kernel
theorem dX5_addBlock_26 : decode cX5_addBlock 26 = .ok (.iload_n 2, 1) := by decide +kernel
theorem dX5_addBlock_27 : decode cX5_addBlock 27 = .ok (.iconst 1, 1) := by decide +kernel
theorem dX5_addBlock_28 : decode cX5_addBlock 28 = .ok (.iastore, 1) := by decide +kernel
theorem dX5_addBlock_29 : decode cX5_addBlock 29 = .ok (.aload_n 0, 1) := by decide +kernel
theorem dX5_addBlock_30 : decode cX5_addBlock 30 = .ok (.getfield 27, 3) := by decide +kernel
theorem dX5_addBlock_33 : decode cX5_addBlock 33 = .ok (.iload_n 2, 1) := by decide +kernel
theorem dX5_addBlock_34 : decode cX5_addBlock 34 = .ok (.iconst 0, 1) := by decide +kernel
theorem dX5_addBlock_35 : decode cX5_addBlock 35 = .ok (.iastore, 1) := by decide +kernel
theorem dX5_addBlock_36 : decode cX5_addBlock 36 = .ok (.aload_n 0, 1) := by decide +kernel
theorem dX5_addBlock_37 : decode cX5_addBlock 37 = .ok (.iload_n 2, 1) := by decide +kernel
theorem dX5_addBlock_38 : decode cX5_addBlock 38 = .ok (.iconst 1, 1) := by decide +kernel
theorem dX5_addBlock_39 : decode cX5_addBlock 39 = .ok (.iadd, 1) := by decide +kernel
theorem dX5_addBlock_40 : decode cX5_addBlock 40 = .ok (.putfield 43, 3) := by decide +kernel
theorem dX5_addBlock_43 : decode cX5_addBlock 43 = .ok (.iconst 0, 1) := by decide +kernel
theorem dX5_addBlock_44 : decode cX5_addBlock 44 = .ok (.istore_n 3, 1) := by decide +kernel
theorem dX5_addBlock_45 : decode cX5_addBlock 45 = .ok (.iload_n 3, 1) := by decide +kernel
theorem dX5_addBlock_46 : decode cX5_addBlock 46 = .ok (.bipush 12, 2) := by decide +kernel
theorem dX5_addBlock_48 : decode cX5_addBlock 48 = .ok (.if_icmp .ge 16, 3) := by decide +kernel
theorem dX5_addBlock_51 : decode cX5_addBlock 51 = .ok (.aload_n 0, 1) := by decide +kernel
theorem dX5_addBlock_52 : decode cX5_addBlock 52 = .ok (.iload_n 2, 1) := by decide +kernel
theorem dX5_addBlock_53 : decode cX5_addBlock 53 = .ok (.iload_n 3, 1) := by decide +kernel
theorem dX5_addBlock_54 : decode cX5_addBlock 54 = .ok (.iconst (-1), 1) := by decide +kernel
theorem dX5_addBlock_55 : decode cX5_addBlock 55 = .ok (.invokevirtual 57, 3) := by decide +kernel
theorem dX5_addBlock_58 : decode cX5_addBlock 58 = .ok (.iinc 3 1, 3) := by decide +kernel
theorem dX5_addBlock_61 : decode cX5_addBlock 61 = .ok (.goto (-16), 3) := by decide +kernel
theorem dX5_addBlock_64 : decode cX5_addBlock 64 = .ok (.return_, 1) := by decide +kernel
theorem dX5_sizeOf_0 : decode cX5_sizeOf 0 = .ok (.iload_n 1, 1) := by decide +kernel
theorem dX5_sizeOf_1 : decode cX5_sizeOf 1 = .ok (.ifCond .lt 18, 3) := by decide +kernel
theorem dX5_sizeOf_4 : decode cX5_sizeOf 4 = .ok (.iload_n 1, 1) := by decide +kernel
theorem dX5_sizeOf_5 : decode cX5_sizeOf 5 = .ok (.bipush 10, 2) := by decide +kernel
theorem dX5_sizeOf_7 : decode cX5_sizeOf 7 = .ok (.if_icmp .ge 12, 3) := by decide +kernel
theorem dX5_sizeOf_10 : decode cX5_sizeOf 10 = .ok (.aload_n 0, 1) := by decide +kernel
theorem dX5_sizeOf_11 : decode cX5_sizeOf 11 = .ok (.getfield 21, 3) := by decide +kernel
theorem dX5_sizeOf_14 : decode cX5_sizeOf 14 = .ok (.iload_n 1, 1) := by decide +kernel
theorem dX5_sizeOf_15 : decode cX5_sizeOf 15 = .ok (.iaload, 1) := by decide +kernel
theorem dX5_sizeOf_16 : decode cX5_sizeOf 16 = .ok (.goto 4, 3) := by decide +kernel
theorem dX5_sizeOf_19 : decode cX5_sizeOf 19 = .ok (.iconst 0, 1) := by decide +kernel
theorem dX5_sizeOf_20 : decode cX5_sizeOf 20 = .ok (.ireturn, 1) := by decide +kernel
theorem dX5_isLive_0 : decode cX5_isLive 0 = .ok (.iload_n 1, 1) := by decide +kernel
theorem dX5_isLive_1 : decode cX5_isLive 1 = .ok (.ifCond .lt 23, 3) := by decide +kernel
theorem dX5_isLive_4 : decode cX5_isLive 4 = .ok (.iload_n 1, 1) := by decide +kernel
theorem dX5_isLive_5 : decode cX5_isLive 5 = .ok (.bipush 10, 2) := by decide +kernel
theorem dX5_isLive_7 : decode cX5_isLive 7 = .ok (.if_icmp .ge 17, 3) := by decide +kernel
theorem dX5_isLive_10 : decode cX5_isLive 10 = .ok (.aload_n 0, 1) := by decide +kernel
theorem dX5_isLive_11 : decode cX5_isLive 11 = .ok (.getfield 24, 3) := by decide +kernel
theorem dX5_isLive_14 : decode cX5_isLive 14 = .ok (.iload_n 1, 1) := by decide +kernel
theorem dX5_isLive_15 : decode cX5_isLive 15 = .ok (.iaload, 1) := by decide +kernel
theorem dX5_isLive_16 : decode cX5_isLive 16 = .ok (.iconst 1, 1) := by decide +kernel
theorem dX5_isLive_17 : decode cX5_isLive 17 = .ok (.if_icmp .ne 7, 3) := by decide +kernel
theorem dX5_isLive_20 : decode cX5_isLive 20 = .ok (.iconst 1, 1) := by decide +kernel
theorem dX5_isLive_21 : decode cX5_isLive 21 = .ok (.goto 4, 3) := by decide +kernel
theorem dX5_isLive_24 : decode cX5_isLive 24 = .ok (.iconst 0, 1) := by decide +kernel
theorem dX5_isLive_25 : decode cX5_isLive 25 = .ok (.ireturn, 1) := by decide +kernel
theorem dX5_isConstant_0 : decode cX5_isConstant 0 = .ok (.iload_n 1, 1) := by decide +kernel
theorem dX5_isConstant_1 : decode cX5_isConstant 1 = .ok (.ifCond .lt 23, 3) := by decide +kernel
theorem dX5_isConstant_4 : decode cX5_isConstant 4 = .ok (.iload_n 1, 1) := by decide +kernel
theorem dX5_isConstant_5 : decode cX5_isConstant 5 = .ok (.bipush 10, 2) := by decide +kernel
theorem dX5_isConstant_7 : decode cX5_isConstant 7 = .ok (.if_icmp .ge 17, 3) := by decide +kernel
theorem dX5_isConstant_10 : decode cX5_isConstant 10 = .ok (.aload_n 0, 1) := by decide +kernel
theorem dX5_isConstant_11 : decode cX5_isConstant 11 = .ok (.getfield 27, 3) := by decide +kernel
theorem dX5_isConstant_14 : decode cX5_isConstant 14 = .ok (.iload_n 1, 1) := by decide +kernel
theorem dX5_isConstant_15 : decode cX5_isConstant 15 = .ok (.iaload, 1) := by decide +kernel
theorem dX5_isConstant_16 : decode cX5_isConstant 16 = .ok (.iconst 1, 1) := by decide +kernel
theorem dX5_isConstant_17 : decode cX5_isConstant 17 = .ok (.if_icmp .ne 7, 3) := by decide +kernel
theorem dX5_isConstant_20 : decode cX5_isConstant 20 = .ok (.iconst 1, 1) := by decide +kernel
theorem dX5_isConstant_21 : decode cX5_isConstant 21 = .ok (.goto 4, 3) := by decide +kernel
theorem dX5_isConstant_24 : decode cX5_isConstant 24 = .ok (.iconst 0, 1) := by decide +kernel
theorem dX5_isConstant_25 : decode cX5_isConstant 25 = .ok (.ireturn, 1) := by decide +kernel
theorem dX5_markEnded_0 : decode cX5_markEnded 0 = .ok (.iload_n 1, 1) := by decide +kernel
theorem dX5_markEnded_1 : decode cX5_markEnded 1 = .ok (.ifCond .lt 16, 3) := by decide +kernel
theorem dX5_markEnded_4 : decode cX5_markEnded 4 = .ok (.iload_n 1, 1) := by decide +kernel
theorem dX5_markEnded_5 : decode cX5_markEnded 5 = .ok (.bipush 10, 2) := by decide +kernel
theorem dX5_markEnded_7 : decode cX5_markEnded 7 = .ok (.if_icmp .ge 10, 3) := by decide +kernel
theorem dX5_markEnded_10 : decode cX5_markEnded 10 = .ok (.aload_n 0, 1) := by decide +kernel
theorem dX5_markEnded_11 : decode cX5_markEnded 11 = .ok (.getfield 24, 3) := by decide +kernel
theorem dX5_markEnded_14 : decode cX5_markEnded 14 = .ok (.iload_n 1, 1) := by decide +kernel
theorem dX5_markEnded_15 : decode cX5_markEnded 15 = .ok (.iconst 0, 1) := by decide +kernel
theorem dX5_markEnded_16 : decode cX5_markEnded 16 = .ok (.iastore, 1) := by decide +kernel
theorem dX5_markEnded_17 : decode cX5_markEnded 17 = .ok (.return_, 1) := by decide +kernel
theorem dX5_markConstant_0 : decode cX5_markConstant 0 = .ok (.iload_n 1, 1) := by decide +kernel
theorem dX5_markConstant_1 : decode cX5_markConstant 1 = .ok (.ifCond .lt 16, 3) := by decide +kernel
theorem dX5_markConstant_4 : decode cX5_markConstant 4 = .ok (.iload_n 1, 1) := by decide +kernel
theorem dX5_markConstant_5 : decode cX5_markConstant 5 = .ok (.bipush 10, 2) := by decide +kernel
theorem dX5_markConstant_7 : decode cX5_markConstant 7 = .ok (.if_icmp .ge 10, 3) := by decide +kernel
theorem dX5_markConstant_10 : decode cX5_markConstant 10 = .ok (.aload_n 0, 1) := by decide +kernel
theorem dX5_markConstant_11 : decode cX5_markConstant 11 = .ok (.getfield 27, 3) := by decide +kernel
theorem dX5_markConstant_14 : decode cX5_markConstant 14 = .ok (.iload_n 1, 1) := by decide +kernel
theorem dX5_markConstant_15 : decode cX5_markConstant 15 = .ok (.iconst 1, 1) := by decide +kernel
theorem dX5_markConstant_16 : decode cX5_markConstant 16 = .ok (.iastore, 1) := by decide +kernel
theorem dX5_markConstant_17 : decode cX5_markConstant 17 = .ok (.return_, 1) := by decide +kernel
theorem dX5_cellAt_0 : decode cX5_cellAt 0 = .ok (.iload_n 1, 1) := by decide +kernel
theorem dX5_cellAt_1 : decode cX5_cellAt 1 = .ok (.ifCond .lt 33, 3) := by decide +kernel
theorem dX5_cellAt_4 : decode cX5_cellAt 4 = .ok (.iload_n 1, 1) := by decide +kernel
theorem dX5_cellAt_5 : decode cX5_cellAt 5 = .ok (.bipush 10, 2) := by decide +kernel
theorem dX5_cellAt_7 : decode cX5_cellAt 7 = .ok (.if_icmp .ge 27, 3) := by decide +kernel
theorem dX5_cellAt_10 : decode cX5_cellAt 10 = .ok (.iload_n 2, 1) := by decide +kernel
theorem dX5_cellAt_11 : decode cX5_cellAt 11 = .ok (.ifCond .lt 23, 3) := by decide +kernel
theorem dX5_cellAt_14 : decode cX5_cellAt 14 = .ok (.iload_n 2, 1) := by decide +kernel
theorem dX5_cellAt_15 : decode cX5_cellAt 15 = .ok (.bipush 12, 2) := by decide +kernel
theorem dX5_cellAt_17 : decode cX5_cellAt 17 = .ok (.if_icmp .ge 17, 3) := by decide +kernel
theorem dX5_cellAt_20 : decode cX5_cellAt 20 = .ok (.aload_n 0, 1) := by decide +kernel
theorem dX5_cellAt_21 : decode cX5_cellAt 21 = .ok (.getfield 30, 3) := by decide +kernel
theorem dX5_cellAt_24 : decode cX5_cellAt 24 = .ok (.iload_n 1, 1) := by decide +kernel
theorem dX5_cellAt_25 : decode cX5_cellAt 25 = .ok (.bipush 12, 2) := by decide +kernel
theorem dX5_cellAt_27 : decode cX5_cellAt 27 = .ok (.imul, 1) := by decide +kernel
theorem dX5_cellAt_28 : decode cX5_cellAt 28 = .ok (.iload_n 2, 1) := by decide +kernel
theorem dX5_cellAt_29 : decode cX5_cellAt 29 = .ok (.iadd, 1) := by decide +kernel
theorem dX5_cellAt_30 : decode cX5_cellAt 30 = .ok (.iaload, 1) := by decide +kernel
theorem dX5_cellAt_31 : decode cX5_cellAt 31 = .ok (.goto 4, 3) := by decide +kernel
theorem dX5_cellAt_34 : decode cX5_cellAt 34 = .ok (.iconst (-1), 1) := by decide +kernel
theorem dX5_cellAt_35 : decode cX5_cellAt 35 = .ok (.ireturn, 1) := by decide +kernel
theorem dX5_putCell_0 : decode cX5_putCell 0 = .ok (.iload_n 1, 1) := by decide +kernel
theorem dX5_putCell_1 : decode cX5_putCell 1 = .ok (.ifCond .lt 31, 3) := by decide +kernel
theorem dX5_putCell_4 : decode cX5_putCell 4 = .ok (.iload_n 1, 1) := by decide +kernel
theorem dX5_putCell_5 : decode cX5_putCell 5 = .ok (.bipush 10, 2) := by decide +kernel
theorem dX5_putCell_7 : decode cX5_putCell 7 = .ok (.if_icmp .ge 25, 3) := by decide +kernel
theorem dX5_putCell_10 : decode cX5_putCell 10 = .ok (.iload_n 2, 1) := by decide +kernel
theorem dX5_putCell_11 : decode cX5_putCell 11 = .ok (.ifCond .lt 21, 3) := by decide +kernel
theorem dX5_putCell_14 : decode cX5_putCell 14 = .ok (.iload_n 2, 1) := by decide +kernel
theorem dX5_putCell_15 : decode cX5_putCell 15 = .ok (.bipush 12, 2) := by decide +kernel
theorem dX5_putCell_17 : decode cX5_putCell 17 = .ok (.if_icmp .ge 15, 3) := by decide +kernel
theorem dX5_putCell_20 : decode cX5_putCell 20 = .ok (.aload_n 0, 1) := by decide +kernel
theorem dX5_putCell_21 : decode cX5_putCell 21 = .ok (.getfield 30, 3) := by decide +kernel
theorem dX5_putCell_24 : decode cX5_putCell 24 = .ok (.iload_n 1, 1) := by decide +kernel
theorem dX5_putCell_25 : decode cX5_putCell 25 = .ok (.bipush 12, 2) := by decide +kernel
theorem dX5_putCell_27 : decode cX5_putCell 27 = .ok (.imul, 1) := by decide +kernel
theorem dX5_putCell_28 : decode cX5_putCell 28 = .ok (.iload_n 2, 1) := by decide +kernel
theorem dX5_putCell_29 : decode cX5_putCell 29 = .ok (.iadd, 1) := by decide +kernel
theorem dX5_putCell_30 : decode cX5_putCell 30 = .ok (.iload_n 3, 1) := by decide +kernel
theorem dX5_putCell_31 : decode cX5_putCell 31 = .ok (.iastore, 1) := by decide +kernel
theorem dX5_putCell_32 : decode cX5_putCell 32 = .ok (.return_, 1) := by decide +kernel
theorem dX5_liveBlocks_0 : decode cX5_liveBlocks 0 = .ok (.iconst 0, 1) := by decide +kernel
theorem dX5_liveBlocks_1 : decode cX5_liveBlocks 1 = .ok (.istore_n 1, 1) := by decide +kernel
theorem dX5_liveBlocks_2 : decode cX5_liveBlocks 2 = .ok (.iconst 0, 1) := by decide +kernel
theorem dX5_liveBlocks_3 : decode cX5_liveBlocks 3 = .ok (.istore_n 2, 1) := by decide +kernel
theorem dX5_liveBlocks_4 : decode cX5_liveBlocks 4 = .ok (.iload_n 2, 1) := by decide +kernel
theorem dX5_liveBlocks_5 : decode cX5_liveBlocks 5 = .ok (.aload_n 0, 1) := by decide +kernel
theorem dX5_liveBlocks_6 : decode cX5_liveBlocks 6 = .ok (.getfield 43, 3) := by decide +kernel
theorem dX5_liveBlocks_9 : decode cX5_liveBlocks 9 = .ok (.if_icmp .ge 20, 3) := by decide +kernel
theorem dX5_liveBlocks_12 : decode cX5_liveBlocks 12 = .ok (.aload_n 0, 1) := by decide +kernel
theorem dX5_liveBlocks_13 : decode cX5_liveBlocks 13 = .ok (.iload_n 2, 1) := by decide +kernel
theorem dX5_liveBlocks_14 : decode cX5_liveBlocks 14 = .ok (.invokevirtual 61, 3) := by decide +kernel
theorem dX5_liveBlocks_17 : decode cX5_liveBlocks 17 = .ok (.ifCond .eq 6, 3) := by decide +kernel
theorem dX5_liveBlocks_20 : decode cX5_liveBlocks 20 = .ok (.iinc 1 1, 3) := by decide +kernel
theorem dX5_liveBlocks_23 : decode cX5_liveBlocks 23 = .ok (.iinc 2 1, 3) := by decide +kernel
theorem dX5_liveBlocks_26 : decode cX5_liveBlocks 26 = .ok (.goto (-22), 3) := by decide +kernel
theorem dX5_liveBlocks_29 : decode cX5_liveBlocks 29 = .ok (.iload_n 1, 1) := by decide +kernel
theorem dX5_liveBlocks_30 : decode cX5_liveBlocks 30 = .ok (.ireturn, 1) := by decide +kernel
theorem dX5_blockProperty_0 : decode cX5_blockProperty 0 = .ok (.aload_n 0, 1) := by decide +kernel
theorem dX5_blockProperty_1 : decode cX5_blockProperty 1 = .ok (.iload_n 1, 1) := by decide +kernel
theorem dX5_blockProperty_2 : decode cX5_blockProperty 2 = .ok (.invokevirtual 64, 3) := by decide +kernel
theorem dX5_blockProperty_5 : decode cX5_blockProperty 5 = .ok (.ifCond .ne 6, 3) := by decide +kernel
theorem dX5_blockProperty_8 : decode cX5_blockProperty 8 = .ok (.bipush (-2), 2) := by decide +kernel
theorem dX5_blockProperty_10 : decode cX5_blockProperty 10 = .ok (.ireturn, 1) := by decide +kernel
theorem dX5_blockProperty_11 : decode cX5_blockProperty 11 = .ok (.iload_n 2, 1) := by decide +kernel
theorem dX5_blockProperty_12 : decode cX5_blockProperty 12 = .ok (.tableswitch 69 0 4 #[36, 43, 50, 57, 63], 36) := by decide +kernel
theorem dX5_blockProperty_48 : decode cX5_blockProperty 48 = .ok (.aload_n 0, 1) := by decide +kernel
theorem dX5_blockProperty_49 : decode cX5_blockProperty 49 = .ok (.getfield 21, 3) := by decide +kernel
theorem dX5_blockProperty_52 : decode cX5_blockProperty 52 = .ok (.iload_n 1, 1) := by decide +kernel
theorem dX5_blockProperty_53 : decode cX5_blockProperty 53 = .ok (.iaload, 1) := by decide +kernel
theorem dX5_blockProperty_54 : decode cX5_blockProperty 54 = .ok (.ireturn, 1) := by decide +kernel
theorem dX5_blockProperty_55 : decode cX5_blockProperty 55 = .ok (.aload_n 0, 1) := by decide +kernel
theorem dX5_blockProperty_56 : decode cX5_blockProperty 56 = .ok (.getfield 24, 3) := by decide +kernel
theorem dX5_blockProperty_59 : decode cX5_blockProperty 59 = .ok (.iload_n 1, 1) := by decide +kernel
theorem dX5_blockProperty_60 : decode cX5_blockProperty 60 = .ok (.iaload, 1) := by decide +kernel
theorem dX5_blockProperty_61 : decode cX5_blockProperty 61 = .ok (.ireturn, 1) := by decide +kernel
theorem dX5_blockProperty_62 : decode cX5_blockProperty 62 = .ok (.aload_n 0, 1) := by decide +kernel
theorem dX5_blockProperty_63 : decode cX5_blockProperty 63 = .ok (.getfield 27, 3) := by decide +kernel
theorem dX5_blockProperty_66 : decode cX5_blockProperty 66 = .ok (.iload_n 1, 1) := by decide +kernel
theorem dX5_blockProperty_67 : decode cX5_blockProperty 67 = .ok (.iaload, 1) := by decide +kernel
theorem dX5_blockProperty_68 : decode cX5_blockProperty 68 = .ok (.ireturn, 1) := by decide +kernel
theorem dX5_blockProperty_69 : decode cX5_blockProperty 69 = .ok (.aload_n 0, 1) := by decide +kernel
theorem dX5_blockProperty_70 : decode cX5_blockProperty 70 = .ok (.iload_n 1, 1) := by decide +kernel
theorem dX5_blockProperty_71 : decode cX5_blockProperty 71 = .ok (.invokevirtual 67, 3) := by decide +kernel
theorem dX5_blockProperty_74 : decode cX5_blockProperty 74 = .ok (.ireturn, 1) := by decide +kernel
theorem dX5_blockProperty_75 : decode cX5_blockProperty 75 = .ok (.aload_n 0, 1) := by decide +kernel
theorem dX5_blockProperty_76 : decode cX5_blockProperty 76 = .ok (.iload_n 1, 1) := by decide +kernel
theorem dX5_blockProperty_77 : decode cX5_blockProperty 77 = .ok (.invokevirtual 71, 3) := by decide +kernel
theorem dX5_blockProperty_80 : decode cX5_blockProperty 80 = .ok (.ireturn, 1) := by decide +kernel
theorem dX5_blockProperty_81 : decode cX5_blockProperty 81 = .ok (.bipush (-2), 2) := by decide +kernel
theorem dX5_blockProperty_83 : decode cX5_blockProperty 83 = .ok (.ireturn, 1) := by decide +kernel
theorem dX5_uninitializedIn_0 : decode cX5_uninitializedIn 0 = .ok (.iconst 0, 1) := by decide +kernel
theorem dX5_uninitializedIn_1 : decode cX5_uninitializedIn 1 = .ok (.istore_n 2, 1) := by decide +kernel
theorem dX5_uninitializedIn_2 : decode cX5_uninitializedIn 2 = .ok (.iconst 0, 1) := by decide +kernel
theorem dX5_uninitializedIn_3 : decode cX5_uninitializedIn 3 = .ok (.istore_n 3, 1) := by decide +kernel
theorem dX5_uninitializedIn_4 : decode cX5_uninitializedIn 4 = .ok (.iload_n 3, 1) := by decide +kernel
theorem dX5_uninitializedIn_5 : decode cX5_uninitializedIn 5 = .ok (.aload_n 0, 1) := by decide +kernel
theorem dX5_uninitializedIn_6 : decode cX5_uninitializedIn 6 = .ok (.iload_n 1, 1) := by decide +kernel
theorem dX5_uninitializedIn_7 : decode cX5_uninitializedIn 7 = .ok (.invokevirtual 74, 3) := by decide +kernel
theorem dX5_uninitializedIn_10 : decode cX5_uninitializedIn 10 = .ok (.if_icmp .ge 22, 3) := by decide +kernel
theorem dX5_uninitializedIn_13 : decode cX5_uninitializedIn 13 = .ok (.aload_n 0, 1) := by decide +kernel
theorem dX5_uninitializedIn_14 : decode cX5_uninitializedIn 14 = .ok (.iload_n 1, 1) := by decide +kernel
theorem dX5_uninitializedIn_15 : decode cX5_uninitializedIn 15 = .ok (.iload_n 3, 1) := by decide +kernel
theorem dX5_uninitializedIn_16 : decode cX5_uninitializedIn 16 = .ok (.invokevirtual 77, 3) := by decide +kernel
theorem dX5_uninitializedIn_19 : decode cX5_uninitializedIn 19 = .ok (.iconst (-1), 1) := by decide +kernel
theorem dX5_uninitializedIn_20 : decode cX5_uninitializedIn 20 = .ok (.if_icmp .ne 6, 3) := by decide +kernel
theorem dX5_uninitializedIn_23 : decode cX5_uninitializedIn 23 = .ok (.iinc 2 1, 3) := by decide +kernel
theorem dX5_uninitializedIn_26 : decode cX5_uninitializedIn 26 = .ok (.iinc 3 1, 3) := by decide +kernel
theorem dX5_uninitializedIn_29 : decode cX5_uninitializedIn 29 = .ok (.goto (-25), 3) := by decide +kernel
theorem dX5_uninitializedIn_32 : decode cX5_uninitializedIn 32 = .ok (.iload_n 2, 1) := by decide +kernel
theorem dX5_uninitializedIn_33 : decode cX5_uninitializedIn 33 = .ok (.ireturn, 1) := by decide +kernel
theorem dX5_pointersIn_0 : decode cX5_pointersIn 0 = .ok (.iconst 0, 1) := by decide +kernel
theorem dX5_pointersIn_1 : decode cX5_pointersIn 1 = .ok (.istore_n 2, 1) := by decide +kernel
theorem dX5_pointersIn_2 : decode cX5_pointersIn 2 = .ok (.iconst 0, 1) := by decide +kernel
theorem dX5_pointersIn_3 : decode cX5_pointersIn 3 = .ok (.istore_n 3, 1) := by decide +kernel
theorem dX5_pointersIn_4 : decode cX5_pointersIn 4 = .ok (.iload_n 3, 1) := by decide +kernel
theorem dX5_pointersIn_5 : decode cX5_pointersIn 5 = .ok (.aload_n 0, 1) := by decide +kernel
theorem dX5_pointersIn_6 : decode cX5_pointersIn 6 = .ok (.iload_n 1, 1) := by decide +kernel
theorem dX5_pointersIn_7 : decode cX5_pointersIn 7 = .ok (.invokevirtual 74, 3) := by decide +kernel
theorem dX5_pointersIn_10 : decode cX5_pointersIn 10 = .ok (.if_icmp .ge 24, 3) := by decide +kernel
theorem dX5_pointersIn_13 : decode cX5_pointersIn 13 = .ok (.aload_n 0, 1) := by decide +kernel
theorem dX5_pointersIn_14 : decode cX5_pointersIn 14 = .ok (.iload_n 1, 1) := by decide +kernel
theorem dX5_pointersIn_15 : decode cX5_pointersIn 15 = .ok (.iload_n 3, 1) := by decide +kernel
theorem dX5_pointersIn_16 : decode cX5_pointersIn 16 = .ok (.invokevirtual 77, 3) := by decide +kernel
theorem dX5_pointersIn_19 : decode cX5_pointersIn 19 = .ok (.invokestatic 81, 3) := by decide +kernel
theorem dX5_pointersIn_22 : decode cX5_pointersIn 22 = .ok (.ifCond .eq 6, 3) := by decide +kernel
theorem dX5_pointersIn_25 : decode cX5_pointersIn 25 = .ok (.iinc 2 1, 3) := by decide +kernel
theorem dX5_pointersIn_28 : decode cX5_pointersIn 28 = .ok (.iinc 3 1, 3) := by decide +kernel
theorem dX5_pointersIn_31 : decode cX5_pointersIn 31 = .ok (.goto (-27), 3) := by decide +kernel
theorem dX5_pointersIn_34 : decode cX5_pointersIn 34 = .ok (.iload_n 2, 1) := by decide +kernel
theorem dX5_pointersIn_35 : decode cX5_pointersIn 35 = .ok (.ireturn, 1) := by decide +kernel
theorem dX6_init_0 : decode cX6_init 0 = .ok (.aload_n 0, 1) := by decide +kernel
theorem dX6_init_1 : decode cX6_init 1 = .ok (.invokespecial 3, 3) := by decide +kernel
theorem dX6_init_4 : decode cX6_init 4 = .ok (.aload_n 0, 1) := by decide +kernel
theorem dX6_init_5 : decode cX6_init 5 = .ok (.bipush 10, 2) := by decide +kernel
theorem dX6_init_7 : decode cX6_init 7 = .ok (.newarray .int, 2) := by decide +kernel
theorem dX6_init_9 : decode cX6_init 9 = .ok (.putfield 9, 3) := by decide +kernel
theorem dX6_init_12 : decode cX6_init 12 = .ok (.return_, 1) := by decide +kernel
theorem dX6_noted_0 : decode cX6_noted 0 = .ok (.bipush (-10), 2) := by decide +kernel
theorem dX6_noted_2 : decode cX6_noted 2 = .ok (.iload_n 1, 1) := by decide +kernel
theorem dX6_noted_3 : decode cX6_noted 3 = .ok (.isub, 1) := by decide +kernel
theorem dX6_noted_4 : decode cX6_noted 4 = .ok (.istore_n 2, 1) := by decide +kernel
theorem dX6_noted_5 : decode cX6_noted 5 = .ok (.iload_n 1, 1) := by decide +kernel
theorem dX6_noted_6 : decode cX6_noted 6 = .ok (.bipush (-2), 2) := by decide +kernel
theorem dX6_noted_8 : decode cX6_noted 8 = .ok (.if_icmp .ne 16, 3) := by decide +kernel
theorem dX6_noted_11 : decode cX6_noted 11 = .ok (.aload_n 0, 1) := by decide +kernel
theorem dX6_noted_12 : decode cX6_noted 12 = .ok (.dup, 1) := by decide +kernel
theorem dX6_noted_13 : decode cX6_noted 13 = .ok (.getfield 15, 3) := by decide +kernel
theorem dX6_noted_16 : decode cX6_noted 16 = .ok (.iconst 1, 1) := by decide +kernel
theorem dX6_noted_17 : decode cX6_noted 17 = .ok (.iadd, 1) := by decide +kernel
theorem dX6_noted_18 : decode cX6_noted 18 = .ok (.putfield 15, 3) := by decide +kernel
theorem dX6_noted_21 : decode cX6_noted 21 = .ok (.goto 62, 3) := by decide +kernel
theorem dX6_noted_24 : decode cX6_noted 24 = .ok (.iload_n 1, 1) := by decide +kernel
theorem dX6_noted_25 : decode cX6_noted 25 = .ok (.bipush (-3), 2) := by decide +kernel
theorem dX6_noted_27 : decode cX6_noted 27 = .ok (.if_icmp .ne 16, 3) := by decide +kernel
theorem dX6_noted_30 : decode cX6_noted 30 = .ok (.aload_n 0, 1) := by decide +kernel
theorem dX6_noted_31 : decode cX6_noted 31 = .ok (.dup, 1) := by decide +kernel
theorem dX6_noted_32 : decode cX6_noted 32 = .ok (.getfield 19, 3) := by decide +kernel
theorem dX6_noted_35 : decode cX6_noted 35 = .ok (.iconst 1, 1) := by decide +kernel
theorem dX6_noted_36 : decode cX6_noted 36 = .ok (.iadd, 1) := by decide +kernel
theorem dX6_noted_37 : decode cX6_noted 37 = .ok (.putfield 19, 3) := by decide +kernel
theorem dX6_noted_40 : decode cX6_noted 40 = .ok (.goto 43, 3) := by decide +kernel
theorem dX6_noted_43 : decode cX6_noted 43 = .ok (.iload_n 1, 1) := by decide +kernel
theorem dX6_noted_44 : decode cX6_noted 44 = .ok (.bipush (-4), 2) := by decide +kernel
theorem dX6_noted_46 : decode cX6_noted 46 = .ok (.if_icmp .ne 16, 3) := by decide +kernel
theorem dX6_noted_49 : decode cX6_noted 49 = .ok (.aload_n 0, 1) := by decide +kernel
theorem dX6_noted_50 : decode cX6_noted 50 = .ok (.dup, 1) := by decide +kernel
theorem dX6_noted_51 : decode cX6_noted 51 = .ok (.getfield 22, 3) := by decide +kernel
theorem dX6_noted_54 : decode cX6_noted 54 = .ok (.iconst 1, 1) := by decide +kernel
theorem dX6_noted_55 : decode cX6_noted 55 = .ok (.iadd, 1) := by decide +kernel
theorem dX6_noted_56 : decode cX6_noted 56 = .ok (.putfield 22, 3) := by decide +kernel
theorem dX6_noted_59 : decode cX6_noted 59 = .ok (.goto 24, 3) := by decide +kernel
theorem dX6_noted_62 : decode cX6_noted 62 = .ok (.iload_n 2, 1) := by decide +kernel
theorem dX6_noted_63 : decode cX6_noted 63 = .ok (.iconst 1, 1) := by decide +kernel
theorem dX6_noted_64 : decode cX6_noted 64 = .ok (.if_icmp .lt 19, 3) := by decide +kernel
theorem dX6_noted_67 : decode cX6_noted 67 = .ok (.iload_n 2, 1) := by decide +kernel
theorem dX6_noted_68 : decode cX6_noted 68 = .ok (.bipush 9, 2) := by decide +kernel
theorem dX6_noted_70 : decode cX6_noted 70 = .ok (.if_icmp .gt 13, 3) := by decide +kernel
theorem dX6_noted_73 : decode cX6_noted 73 = .ok (.aload_n 0, 1) := by decide +kernel
theorem dX6_noted_74 : decode cX6_noted 74 = .ok (.getfield 9, 3) := by decide +kernel
theorem dX6_noted_77 : decode cX6_noted 77 = .ok (.iload_n 2, 1) := by decide +kernel
theorem dX6_noted_78 : decode cX6_noted 78 = .ok (.dup2, 1) := by decide +kernel
theorem dX6_noted_79 : decode cX6_noted 79 = .ok (.iaload, 1) := by decide +kernel
theorem dX6_noted_80 : decode cX6_noted 80 = .ok (.iconst 1, 1) := by decide +kernel
theorem dX6_noted_81 : decode cX6_noted 81 = .ok (.iadd, 1) := by decide +kernel
theorem dX6_noted_82 : decode cX6_noted 82 = .ok (.iastore, 1) := by decide +kernel
theorem dX6_noted_83 : decode cX6_noted 83 = .ok (.iload_n 1, 1) := by decide +kernel
theorem dX6_noted_84 : decode cX6_noted 84 = .ok (.ireturn, 1) := by decide +kernel
theorem dX6_ofReason_0 : decode cX6_ofReason 0 = .ok (.iload_n 1, 1) := by decide +kernel
theorem dX6_ofReason_1 : decode cX6_ofReason 1 = .ok (.iconst 1, 1) := by decide +kernel
theorem dX6_ofReason_2 : decode cX6_ofReason 2 = .ok (.if_icmp .lt 18, 3) := by decide +kernel
theorem dX6_ofReason_5 : decode cX6_ofReason 5 = .ok (.iload_n 1, 1) := by decide +kernel
theorem dX6_ofReason_6 : decode cX6_ofReason 6 = .ok (.bipush 9, 2) := by decide +kernel
theorem dX6_ofReason_8 : decode cX6_ofReason 8 = .ok (.if_icmp .gt 12, 3) := by decide +kernel
theorem dX6_ofReason_11 : decode cX6_ofReason 11 = .ok (.aload_n 0, 1) := by decide +kernel
theorem dX6_ofReason_12 : decode cX6_ofReason 12 = .ok (.getfield 9, 3) := by decide +kernel
theorem dX6_ofReason_15 : decode cX6_ofReason 15 = .ok (.iload_n 1, 1) := by decide +kernel
theorem dX6_ofReason_16 : decode cX6_ofReason 16 = .ok (.iaload, 1) := by decide +kernel
theorem dX6_ofReason_17 : decode cX6_ofReason 17 = .ok (.goto 5, 3) := by decide +kernel
theorem dX6_ofReason_20 : decode cX6_ofReason 20 = .ok (.bipush (-2), 2) := by decide +kernel
theorem dX6_ofReason_22 : decode cX6_ofReason 22 = .ok (.ireturn, 1) := by decide +kernel
theorem dX6_ofAllReasons_0 : decode cX6_ofAllReasons 0 = .ok (.iconst 0, 1) := by decide +kernel
theorem dX6_ofAllReasons_1 : decode cX6_ofAllReasons 1 = .ok (.istore_n 1, 1) := by decide +kernel
theorem dX6_ofAllReasons_2 : decode cX6_ofAllReasons 2 = .ok (.iconst 1, 1) := by decide +kernel
theorem dX6_ofAllReasons_3 : decode cX6_ofAllReasons 3 = .ok (.istore_n 2, 1) := by decide +kernel
theorem dX6_ofAllReasons_4 : decode cX6_ofAllReasons 4 = .ok (.iload_n 2, 1) := by decide +kernel
theorem dX6_ofAllReasons_5 : decode cX6_ofAllReasons 5 = .ok (.bipush 9, 2) := by decide +kernel
theorem dX6_ofAllReasons_7 : decode cX6_ofAllReasons 7 = .ok (.if_icmp .gt 18, 3) := by decide +kernel
theorem dX6_ofAllReasons_10 : decode cX6_ofAllReasons 10 = .ok (.iload_n 1, 1) := by decide +kernel
theorem dX6_ofAllReasons_11 : decode cX6_ofAllReasons 11 = .ok (.aload_n 0, 1) := by decide +kernel
theorem dX6_ofAllReasons_12 : decode cX6_ofAllReasons 12 = .ok (.getfield 9, 3) := by decide +kernel
theorem dX6_ofAllReasons_15 : decode cX6_ofAllReasons 15 = .ok (.iload_n 2, 1) := by decide +kernel
theorem dX6_ofAllReasons_16 : decode cX6_ofAllReasons 16 = .ok (.iaload, 1) := by decide +kernel
theorem dX6_ofAllReasons_17 : decode cX6_ofAllReasons 17 = .ok (.iadd, 1) := by decide +kernel
theorem dX6_ofAllReasons_18 : decode cX6_ofAllReasons 18 = .ok (.istore_n 1, 1) := by decide +kernel
theorem dX6_ofAllReasons_19 : decode cX6_ofAllReasons 19 = .ok (.iinc 2 1, 3) := by decide +kernel
theorem dX6_ofAllReasons_22 : decode cX6_ofAllReasons 22 = .ok (.goto (-18), 3) := by decide +kernel
theorem dX6_ofAllReasons_25 : decode cX6_ofAllReasons 25 = .ok (.iload_n 1, 1) := by decide +kernel
theorem dX6_ofAllReasons_26 : decode cX6_ofAllReasons 26 = .ok (.ireturn, 1) := by decide +kernel
theorem dX7_init_0 : decode cX7_init 0 = .ok (.aload_n 0, 1) := by decide +kernel
theorem dX7_init_1 : decode cX7_init 1 = .ok (.invokespecial 3, 3) := by decide +kernel
theorem dX7_init_4 : decode cX7_init 4 = .ok (.aload_n 0, 1) := by decide +kernel
theorem dX7_init_5 : decode cX7_init 5 = .ok (.new 9, 3) := by decide +kernel
theorem dX7_init_8 : decode cX7_init 8 = .ok (.dup, 1) := by decide +kernel
theorem dX7_init_9 : decode cX7_init 9 = .ok (.invokespecial 11, 3) := by decide +kernel
theorem dX7_init_12 : decode cX7_init 12 = .ok (.putfield 12, 3) := by decide +kernel
theorem dX7_init_15 : decode cX7_init 15 = .ok (.aload_n 0, 1) := by decide +kernel
theorem dX7_init_16 : decode cX7_init 16 = .ok (.new 16, 3) := by decide +kernel
theorem dX7_init_19 : decode cX7_init 19 = .ok (.dup, 1) := by decide +kernel
theorem dX7_init_20 : decode cX7_init 20 = .ok (.invokespecial 18, 3) := by decide +kernel
theorem dX7_init_23 : decode cX7_init 23 = .ok (.putfield 19, 3) := by decide +kernel
theorem dX7_init_26 : decode cX7_init 26 = .ok (.aload_n 0, 1) := by decide +kernel
theorem dX7_init_27 : decode cX7_init 27 = .ok (.new 23, 3) := by decide +kernel
theorem dX7_init_30 : decode cX7_init 30 = .ok (.dup, 1) := by decide +kernel
theorem dX7_init_31 : decode cX7_init 31 = .ok (.aload_n 0, 1) := by decide +kernel
theorem dX7_init_32 : decode cX7_init 32 = .ok (.getfield 12, 3) := by decide +kernel
theorem dX7_init_35 : decode cX7_init 35 = .ok (.aload_n 0, 1) := by decide +kernel
theorem dX7_init_36 : decode cX7_init 36 = .ok (.getfield 19, 3) := by decide +kernel
theorem dX7_init_39 : decode cX7_init 39 = .ok (.invokespecial 25, 3) := by decide +kernel
theorem dX7_init_42 : decode cX7_init 42 = .ok (.putfield 28, 3) := by decide +kernel
theorem dX7_init_45 : decode cX7_init 45 = .ok (.aload_n 0, 1) := by decide +kernel
theorem dX7_init_46 : decode cX7_init 46 = .ok (.new 32, 3) := by decide +kernel
theorem dX7_init_49 : decode cX7_init 49 = .ok (.dup, 1) := by decide +kernel
theorem dX7_init_50 : decode cX7_init 50 = .ok (.invokespecial 34, 3) := by decide +kernel
theorem dX7_init_53 : decode cX7_init 53 = .ok (.putfield 35, 3) := by decide +kernel
theorem dX7_init_56 : decode cX7_init 56 = .ok (.aload_n 0, 1) := by decide +kernel
theorem dX7_init_57 : decode cX7_init 57 = .ok (.new 39, 3) := by decide +kernel
theorem dX7_init_60 : decode cX7_init 60 = .ok (.dup, 1) := by decide +kernel
theorem dX7_init_61 : decode cX7_init 61 = .ok (.invokespecial 41, 3) := by decide +kernel
theorem dX7_init_64 : decode cX7_init 64 = .ok (.putfield 42, 3) := by decide +kernel
theorem dX7_init_67 : decode cX7_init 67 = .ok (.aload_n 0, 1) := by decide +kernel
theorem dX7_init_68 : decode cX7_init 68 = .ok (.new 46, 3) := by decide +kernel
theorem dX7_init_71 : decode cX7_init 71 = .ok (.dup, 1) := by decide +kernel
theorem dX7_init_72 : decode cX7_init 72 = .ok (.invokespecial 48, 3) := by decide +kernel
theorem dX7_init_75 : decode cX7_init 75 = .ok (.putfield 49, 3) := by decide +kernel
theorem dX7_init_78 : decode cX7_init 78 = .ok (.return_, 1) := by decide +kernel
theorem dX7_make_0 : decode cX7_make 0 = .ok (.aload_n 0, 1) := by decide +kernel
theorem dX7_make_1 : decode cX7_make 1 = .ok (.getfield 42, 3) := by decide +kernel
theorem dX7_make_4 : decode cX7_make 4 = .ok (.aload_n 0, 1) := by decide +kernel
theorem dX7_make_5 : decode cX7_make 5 = .ok (.getfield 12, 3) := by decide +kernel
theorem dX7_make_8 : decode cX7_make 8 = .ok (.invokevirtual 53, 3) := by decide +kernel
theorem dX7_make_11 : decode cX7_make 11 = .ok (.aload_n 0, 1) := by decide +kernel
theorem dX7_make_12 : decode cX7_make 12 = .ok (.aload_n 0, 1) := by decide +kernel
theorem dX7_make_13 : decode cX7_make 13 = .ok (.getfield 28, 3) := by decide +kernel
theorem dX7_make_16 : decode cX7_make 16 = .ok (.iload_n 1, 1) := by decide +kernel
theorem dX7_make_17 : decode cX7_make 17 = .ok (.iload_n 2, 1) := by decide +kernel
theorem dX7_make_18 : decode cX7_make 18 = .ok (.invokevirtual 57, 3) := by decide +kernel
theorem dX7_make_21 : decode cX7_make 21 = .ok (.invokevirtual 61, 3) := by decide +kernel
theorem dX7_make_24 : decode cX7_make 24 = .ok (.ireturn, 1) := by decide +kernel
theorem dX7_end_0 : decode cX7_end 0 = .ok (.aload_n 0, 1) := by decide +kernel
theorem dX7_end_1 : decode cX7_end 1 = .ok (.getfield 42, 3) := by decide +kernel
theorem dX7_end_4 : decode cX7_end 4 = .ok (.aload_n 0, 1) := by decide +kernel
theorem dX7_end_5 : decode cX7_end 5 = .ok (.getfield 12, 3) := by decide +kernel
theorem dX7_end_8 : decode cX7_end 8 = .ok (.invokevirtual 53, 3) := by decide +kernel
theorem dX7_end_11 : decode cX7_end 11 = .ok (.aload_n 0, 1) := by decide +kernel
theorem dX7_end_12 : decode cX7_end 12 = .ok (.aload_n 0, 1) := by decide +kernel
theorem dX7_end_13 : decode cX7_end 13 = .ok (.getfield 28, 3) := by decide +kernel
theorem dX7_end_16 : decode cX7_end 16 = .ok (.iload_n 1, 1) := by decide +kernel
theorem dX7_end_17 : decode cX7_end 17 = .ok (.invokevirtual 65, 3) := by decide +kernel
theorem dX7_end_20 : decode cX7_end 20 = .ok (.invokevirtual 61, 3) := by decide +kernel
theorem dX7_end_23 : decode cX7_end 23 = .ok (.ireturn, 1) := by decide +kernel
theorem dX7_set_0 : decode cX7_set 0 = .ok (.aload_n 0, 1) := by decide +kernel
theorem dX7_set_1 : decode cX7_set 1 = .ok (.getfield 42, 3) := by decide +kernel
theorem dX7_set_4 : decode cX7_set 4 = .ok (.aload_n 0, 1) := by decide +kernel
theorem dX7_set_5 : decode cX7_set 5 = .ok (.getfield 12, 3) := by decide +kernel
theorem dX7_set_8 : decode cX7_set 8 = .ok (.invokevirtual 53, 3) := by decide +kernel
theorem dX7_set_11 : decode cX7_set 11 = .ok (.aload_n 0, 1) := by decide +kernel
theorem dX7_set_12 : decode cX7_set 12 = .ok (.aload_n 0, 1) := by decide +kernel
theorem dX7_set_13 : decode cX7_set 13 = .ok (.getfield 28, 3) := by decide +kernel
theorem dX7_set_16 : decode cX7_set 16 = .ok (.iload_n 1, 1) := by decide +kernel
theorem dX7_set_17 : decode cX7_set 17 = .ok (.iload_n 2, 1) := by decide +kernel
theorem dX7_set_18 : decode cX7_set 18 = .ok (.invokevirtual 68, 3) := by decide +kernel
theorem dX7_set_21 : decode cX7_set 21 = .ok (.invokevirtual 61, 3) := by decide +kernel
theorem dX7_set_24 : decode cX7_set 24 = .ok (.ireturn, 1) := by decide +kernel
theorem dX7_copy_0 : decode cX7_copy 0 = .ok (.aload_n 0, 1) := by decide +kernel
theorem dX7_copy_1 : decode cX7_copy 1 = .ok (.getfield 42, 3) := by decide +kernel
theorem dX7_copy_4 : decode cX7_copy 4 = .ok (.aload_n 0, 1) := by decide +kernel
theorem dX7_copy_5 : decode cX7_copy 5 = .ok (.getfield 12, 3) := by decide +kernel
theorem dX7_copy_8 : decode cX7_copy 8 = .ok (.invokevirtual 53, 3) := by decide +kernel
theorem dX7_copy_11 : decode cX7_copy 11 = .ok (.aload_n 0, 1) := by decide +kernel
theorem dX7_copy_12 : decode cX7_copy 12 = .ok (.aload_n 0, 1) := by decide +kernel
theorem dX7_copy_13 : decode cX7_copy 13 = .ok (.getfield 28, 3) := by decide +kernel
theorem dX7_copy_16 : decode cX7_copy 16 = .ok (.iload_n 1, 1) := by decide +kernel
theorem dX7_copy_17 : decode cX7_copy 17 = .ok (.iload_n 2, 1) := by decide +kernel
theorem dX7_copy_18 : decode cX7_copy 18 = .ok (.invokevirtual 71, 3) := by decide +kernel
theorem dX7_copy_21 : decode cX7_copy 21 = .ok (.invokevirtual 61, 3) := by decide +kernel
theorem dX7_copy_24 : decode cX7_copy 24 = .ok (.ireturn, 1) := by decide +kernel
theorem dX7_move_0 : decode cX7_move 0 = .ok (.aload_n 0, 1) := by decide +kernel
theorem dX7_move_1 : decode cX7_move 1 = .ok (.getfield 42, 3) := by decide +kernel
theorem dX7_move_4 : decode cX7_move 4 = .ok (.aload_n 0, 1) := by decide +kernel
theorem dX7_move_5 : decode cX7_move 5 = .ok (.getfield 12, 3) := by decide +kernel
theorem dX7_move_8 : decode cX7_move 8 = .ok (.invokevirtual 53, 3) := by decide +kernel
theorem dX7_move_11 : decode cX7_move 11 = .ok (.aload_n 0, 1) := by decide +kernel
theorem dX7_move_12 : decode cX7_move 12 = .ok (.aload_n 0, 1) := by decide +kernel
theorem dX7_move_13 : decode cX7_move 13 = .ok (.getfield 28, 3) := by decide +kernel
theorem dX7_move_16 : decode cX7_move 16 = .ok (.iload_n 1, 1) := by decide +kernel
theorem dX7_move_17 : decode cX7_move 17 = .ok (.iload_n 2, 1) := by decide +kernel
theorem dX7_move_18 : decode cX7_move 18 = .ok (.invokevirtual 74, 3) := by decide +kernel
theorem dX7_move_21 : decode cX7_move 21 = .ok (.invokevirtual 61, 3) := by decide +kernel
theorem dX7_move_24 : decode cX7_move 24 = .ok (.ireturn, 1) := by decide +kernel
theorem dX7_store_0 : decode cX7_store 0 = .ok (.aload_n 0, 1) := by decide +kernel
theorem dX7_store_1 : decode cX7_store 1 = .ok (.getfield 42, 3) := by decide +kernel
theorem dX7_store_4 : decode cX7_store 4 = .ok (.aload_n 0, 1) := by decide +kernel
theorem dX7_store_5 : decode cX7_store 5 = .ok (.getfield 12, 3) := by decide +kernel
theorem dX7_store_8 : decode cX7_store 8 = .ok (.invokevirtual 53, 3) := by decide +kernel
theorem dX7_store_11 : decode cX7_store 11 = .ok (.aload_n 0, 1) := by decide +kernel
theorem dX7_store_12 : decode cX7_store 12 = .ok (.aload_n 0, 1) := by decide +kernel
theorem dX7_store_13 : decode cX7_store 13 = .ok (.getfield 28, 3) := by decide +kernel
theorem dX7_store_16 : decode cX7_store 16 = .ok (.iload_n 1, 1) := by decide +kernel
theorem dX7_store_17 : decode cX7_store 17 = .ok (.iload_n 2, 1) := by decide +kernel
theorem dX7_store_18 : decode cX7_store 18 = .ok (.iload_n 3, 1) := by decide +kernel
theorem dX7_store_19 : decode cX7_store 19 = .ok (.invokevirtual 77, 3) := by decide +kernel
theorem dX7_store_22 : decode cX7_store 22 = .ok (.invokevirtual 61, 3) := by decide +kernel
theorem dX7_store_25 : decode cX7_store 25 = .ok (.ireturn, 1) := by decide +kernel
theorem dX7_load_0 : decode cX7_load 0 = .ok (.aload_n 0, 1) := by decide +kernel
theorem dX7_load_1 : decode cX7_load 1 = .ok (.getfield 42, 3) := by decide +kernel
theorem dX7_load_4 : decode cX7_load 4 = .ok (.aload_n 0, 1) := by decide +kernel
theorem dX7_load_5 : decode cX7_load 5 = .ok (.getfield 12, 3) := by decide +kernel
theorem dX7_load_8 : decode cX7_load 8 = .ok (.invokevirtual 53, 3) := by decide +kernel
theorem dX7_load_11 : decode cX7_load 11 = .ok (.aload_n 0, 1) := by decide +kernel
theorem dX7_load_12 : decode cX7_load 12 = .ok (.aload_n 0, 1) := by decide +kernel
theorem dX7_load_13 : decode cX7_load 13 = .ok (.getfield 28, 3) := by decide +kernel
theorem dX7_load_16 : decode cX7_load 16 = .ok (.iload_n 1, 1) := by decide +kernel
theorem dX7_load_17 : decode cX7_load 17 = .ok (.iload_n 2, 1) := by decide +kernel
theorem dX7_load_18 : decode cX7_load 18 = .ok (.iload_n 3, 1) := by decide +kernel
theorem dX7_load_19 : decode cX7_load 19 = .ok (.invokevirtual 81, 3) := by decide +kernel
theorem dX7_load_22 : decode cX7_load 22 = .ok (.invokevirtual 61, 3) := by decide +kernel
theorem dX7_load_25 : decode cX7_load 25 = .ok (.ireturn, 1) := by decide +kernel
theorem dX7_compare_0 : decode cX7_compare 0 = .ok (.aload_n 0, 1) := by decide +kernel
theorem dX7_compare_1 : decode cX7_compare 1 = .ok (.getfield 49, 3) := by decide +kernel
theorem dX7_compare_4 : decode cX7_compare 4 = .ok (.aload_n 0, 1) := by decide +kernel
theorem dX7_compare_5 : decode cX7_compare 5 = .ok (.getfield 28, 3) := by decide +kernel
theorem dX7_compare_8 : decode cX7_compare 8 = .ok (.iload_n 1, 1) := by decide +kernel
theorem dX7_compare_9 : decode cX7_compare 9 = .ok (.iload_n 2, 1) := by decide +kernel
theorem dX7_compare_10 : decode cX7_compare 10 = .ok (.invokevirtual 84, 3) := by decide +kernel
theorem dX7_compare_13 : decode cX7_compare 13 = .ok (.invokevirtual 87, 3) := by decide +kernel
theorem dX7_compare_16 : decode cX7_compare 16 = .ok (.ireturn, 1) := by decide +kernel
theorem dX7_blit_0 : decode cX7_blit 0 = .ok (.aload_n 0, 1) := by decide +kernel
theorem dX7_blit_1 : decode cX7_blit 1 = .ok (.getfield 42, 3) := by decide +kernel
theorem dX7_blit_4 : decode cX7_blit 4 = .ok (.aload_n 0, 1) := by decide +kernel
theorem dX7_blit_5 : decode cX7_blit 5 = .ok (.getfield 12, 3) := by decide +kernel
theorem dX7_blit_8 : decode cX7_blit 8 = .ok (.invokevirtual 53, 3) := by decide +kernel
theorem dX7_blit_11 : decode cX7_blit 11 = .ok (.aload_n 0, 1) := by decide +kernel
theorem dX7_blit_12 : decode cX7_blit 12 = .ok (.aload_n 0, 1) := by decide +kernel
theorem dX7_blit_13 : decode cX7_blit 13 = .ok (.getfield 28, 3) := by decide +kernel
theorem dX7_blit_16 : decode cX7_blit 16 = .ok (.iload_n 1, 1) := by decide +kernel
theorem dX7_blit_17 : decode cX7_blit 17 = .ok (.iload_n 2, 1) := by decide +kernel
theorem dX7_blit_18 : decode cX7_blit 18 = .ok (.iload_n 3, 1) := by decide +kernel
theorem dX7_blit_19 : decode cX7_blit 19 = .ok (.invokevirtual 90, 3) := by decide +kernel
theorem dX7_blit_22 : decode cX7_blit 22 = .ok (.invokevirtual 61, 3) := by decide +kernel
theorem dX7_blit_25 : decode cX7_blit 25 = .ok (.ireturn, 1) := by decide +kernel
theorem dX7_freeze_0 : decode cX7_freeze 0 = .ok (.aload_n 0, 1) := by decide +kernel
theorem dX7_freeze_1 : decode cX7_freeze 1 = .ok (.getfield 42, 3) := by decide +kernel
theorem dX7_freeze_4 : decode cX7_freeze 4 = .ok (.aload_n 0, 1) := by decide +kernel
theorem dX7_freeze_5 : decode cX7_freeze 5 = .ok (.getfield 12, 3) := by decide +kernel
theorem dX7_freeze_8 : decode cX7_freeze 8 = .ok (.invokevirtual 53, 3) := by decide +kernel
theorem dX7_freeze_11 : decode cX7_freeze 11 = .ok (.aload_n 0, 1) := by decide +kernel
theorem dX7_freeze_12 : decode cX7_freeze 12 = .ok (.aload_n 0, 1) := by decide +kernel
theorem dX7_freeze_13 : decode cX7_freeze 13 = .ok (.getfield 28, 3) := by decide +kernel
theorem dX7_freeze_16 : decode cX7_freeze 16 = .ok (.iload_n 1, 1) := by decide +kernel
theorem dX7_freeze_17 : decode cX7_freeze 17 = .ok (.invokevirtual 93, 3) := by decide +kernel
theorem dX7_freeze_20 : decode cX7_freeze 20 = .ok (.invokevirtual 61, 3) := by decide +kernel
theorem dX7_freeze_23 : decode cX7_freeze 23 = .ok (.ireturn, 1) := by decide +kernel
theorem dX7_forget_0 : decode cX7_forget 0 = .ok (.aload_n 0, 1) := by decide +kernel
theorem dX7_forget_1 : decode cX7_forget 1 = .ok (.getfield 42, 3) := by decide +kernel
theorem dX7_forget_4 : decode cX7_forget 4 = .ok (.aload_n 0, 1) := by decide +kernel
theorem dX7_forget_5 : decode cX7_forget 5 = .ok (.getfield 12, 3) := by decide +kernel
theorem dX7_forget_8 : decode cX7_forget 8 = .ok (.invokevirtual 53, 3) := by decide +kernel
theorem dX7_forget_11 : decode cX7_forget 11 = .ok (.aload_n 0, 1) := by decide +kernel
theorem dX7_forget_12 : decode cX7_forget 12 = .ok (.aload_n 0, 1) := by decide +kernel
theorem dX7_forget_13 : decode cX7_forget 13 = .ok (.getfield 28, 3) := by decide +kernel
theorem dX7_forget_16 : decode cX7_forget 16 = .ok (.iload_n 1, 1) := by decide +kernel
theorem dX7_forget_17 : decode cX7_forget 17 = .ok (.invokevirtual 96, 3) := by decide +kernel
theorem dX7_forget_20 : decode cX7_forget 20 = .ok (.invokevirtual 61, 3) := by decide +kernel
theorem dX7_forget_23 : decode cX7_forget 23 = .ok (.ireturn, 1) := by decide +kernel
theorem dX7_budget_0 : decode cX7_budget 0 = .ok (.aload_n 0, 1) := by decide +kernel
theorem dX7_budget_1 : decode cX7_budget 1 = .ok (.getfield 42, 3) := by decide +kernel
theorem dX7_budget_4 : decode cX7_budget 4 = .ok (.aload_n 0, 1) := by decide +kernel
theorem dX7_budget_5 : decode cX7_budget 5 = .ok (.getfield 12, 3) := by decide +kernel
theorem dX7_budget_8 : decode cX7_budget 8 = .ok (.invokevirtual 53, 3) := by decide +kernel
theorem dX7_budget_11 : decode cX7_budget 11 = .ok (.aload_n 0, 1) := by decide +kernel
theorem dX7_budget_12 : decode cX7_budget 12 = .ok (.aload_n 0, 1) := by decide +kernel
theorem dX7_budget_13 : decode cX7_budget 13 = .ok (.getfield 28, 3) := by decide +kernel
theorem dX7_budget_16 : decode cX7_budget 16 = .ok (.iload_n 1, 1) := by decide +kernel
theorem dX7_budget_17 : decode cX7_budget 17 = .ok (.invokevirtual 99, 3) := by decide +kernel
theorem dX7_budget_20 : decode cX7_budget 20 = .ok (.invokevirtual 61, 3) := by decide +kernel
theorem dX7_budget_23 : decode cX7_budget 23 = .ok (.ireturn, 1) := by decide +kernel
theorem dX7_register_0 : decode cX7_register 0 = .ok (.aload_n 0, 1) := by decide +kernel
theorem dX7_register_1 : decode cX7_register 1 = .ok (.getfield 49, 3) := by decide +kernel
theorem dX7_register_4 : decode cX7_register 4 = .ok (.aload_n 0, 1) := by decide +kernel
theorem dX7_register_5 : decode cX7_register 5 = .ok (.getfield 12, 3) := by decide +kernel
theorem dX7_register_8 : decode cX7_register 8 = .ok (.iload_n 1, 1) := by decide +kernel
theorem dX7_register_9 : decode cX7_register 9 = .ok (.iload_n 2, 1) := by decide +kernel
theorem dX7_register_10 : decode cX7_register 10 = .ok (.invokevirtual 102, 3) := by decide +kernel
theorem dX7_register_13 : decode cX7_register 13 = .ok (.invokevirtual 87, 3) := by decide +kernel
theorem dX7_register_16 : decode cX7_register 16 = .ok (.ireturn, 1) := by decide +kernel
theorem dX7_piece_0 : decode cX7_piece 0 = .ok (.aload_n 0, 1) := by decide +kernel
theorem dX7_piece_1 : decode cX7_piece 1 = .ok (.getfield 12, 3) := by decide +kernel
theorem dX7_piece_4 : decode cX7_piece 4 = .ok (.iload_n 1, 1) := by decide +kernel
theorem dX7_piece_5 : decode cX7_piece 5 = .ok (.invokevirtual 105, 3) := by decide +kernel
theorem dX7_piece_8 : decode cX7_piece 8 = .ok (.ifCond .eq 21, 3) := by decide +kernel
theorem dX7_piece_11 : decode cX7_piece 11 = .ok (.iload_n 2, 1) := by decide +kernel
theorem dX7_piece_12 : decode cX7_piece 12 = .ok (.iconst 5, 1) := by decide +kernel
theorem dX7_piece_13 : decode cX7_piece 13 = .ok (.if_icmp .ne 16, 3) := by decide +kernel
theorem dX7_piece_16 : decode cX7_piece 16 = .ok (.aload_n 0, 1) := by decide +kernel
theorem dX7_piece_17 : decode cX7_piece 17 = .ok (.getfield 19, 3) := by decide +kernel
theorem dX7_piece_20 : decode cX7_piece 20 = .ok (.aload_n 0, 1) := by decide +kernel
theorem dX7_piece_21 : decode cX7_piece 21 = .ok (.getfield 12, 3) := by decide +kernel
theorem dX7_piece_24 : decode cX7_piece 24 = .ok (.iload_n 1, 1) := by decide +kernel
theorem dX7_piece_25 : decode cX7_piece 25 = .ok (.invokevirtual 109, 3) := by decide +kernel
theorem dX7_piece_28 : decode cX7_piece 28 = .ok (.ireturn, 1) := by decide +kernel
theorem dX7_piece_29 : decode cX7_piece 29 = .ok (.aload_n 0, 1) := by decide +kernel
theorem dX7_piece_30 : decode cX7_piece 30 = .ok (.getfield 49, 3) := by decide +kernel
theorem dX7_piece_33 : decode cX7_piece 33 = .ok (.aload_n 0, 1) := by decide +kernel
theorem dX7_piece_34 : decode cX7_piece 34 = .ok (.getfield 12, 3) := by decide +kernel
theorem dX7_piece_37 : decode cX7_piece 37 = .ok (.iload_n 1, 1) := by decide +kernel
theorem dX7_piece_38 : decode cX7_piece 38 = .ok (.iload_n 2, 1) := by decide +kernel
theorem dX7_piece_39 : decode cX7_piece 39 = .ok (.invokevirtual 113, 3) := by decide +kernel
theorem dX7_piece_42 : decode cX7_piece 42 = .ok (.invokevirtual 87, 3) := by decide +kernel
theorem dX7_piece_45 : decode cX7_piece 45 = .ok (.ireturn, 1) := by decide +kernel
theorem dX7_at_0 : decode cX7_at 0 = .ok (.aload_n 0, 1) := by decide +kernel
theorem dX7_at_1 : decode cX7_at 1 = .ok (.getfield 12, 3) := by decide +kernel
theorem dX7_at_4 : decode cX7_at 4 = .ok (.iload_n 1, 1) := by decide +kernel
theorem dX7_at_5 : decode cX7_at 5 = .ok (.invokevirtual 105, 3) := by decide +kernel
theorem dX7_at_8 : decode cX7_at 8 = .ok (.ifCond .eq 23, 3) := by decide +kernel
theorem dX7_at_11 : decode cX7_at 11 = .ok (.iload_n 2, 1) := by decide +kernel
theorem dX7_at_12 : decode cX7_at 12 = .ok (.ifCond .lt 19, 3) := by decide +kernel
theorem dX7_at_15 : decode cX7_at 15 = .ok (.iload_n 2, 1) := by decide +kernel
theorem dX7_at_16 : decode cX7_at 16 = .ok (.aload_n 0, 1) := by decide +kernel
theorem dX7_at_17 : decode cX7_at 17 = .ok (.getfield 12, 3) := by decide +kernel
theorem dX7_at_20 : decode cX7_at 20 = .ok (.iload_n 1, 1) := by decide +kernel
theorem dX7_at_21 : decode cX7_at 21 = .ok (.invokevirtual 116, 3) := by decide +kernel
theorem dX7_at_24 : decode cX7_at 24 = .ok (.if_icmp .ge 7, 3) := by decide +kernel
theorem dX7_at_27 : decode cX7_at 27 = .ok (.iconst 1, 1) := by decide +kernel
theorem dX7_at_28 : decode cX7_at 28 = .ok (.goto 4, 3) := by decide +kernel
theorem dX7_at_31 : decode cX7_at 31 = .ok (.iconst 0, 1) := by decide +kernel
theorem dX7_at_32 : decode cX7_at 32 = .ok (.istore_n 3, 1) := by decide +kernel
theorem dX7_at_33 : decode cX7_at 33 = .ok (.aload_n 0, 1) := by decide +kernel
theorem dX7_at_34 : decode cX7_at 34 = .ok (.getfield 49, 3) := by decide +kernel
theorem dX7_at_37 : decode cX7_at 37 = .ok (.iload_n 3, 1) := by decide +kernel
theorem dX7_at_38 : decode cX7_at 38 = .ok (.ifCond .eq 15, 3) := by decide +kernel
theorem dX7_at_41 : decode cX7_at 41 = .ok (.aload_n 0, 1) := by decide +kernel
theorem dX7_at_42 : decode cX7_at 42 = .ok (.getfield 12, 3) := by decide +kernel
theorem dX7_at_45 : decode cX7_at 45 = .ok (.iload_n 1, 1) := by decide +kernel
theorem dX7_at_46 : decode cX7_at 46 = .ok (.iload_n 2, 1) := by decide +kernel
theorem dX7_at_47 : decode cX7_at 47 = .ok (.invokevirtual 119, 3) := by decide +kernel
theorem dX7_at_50 : decode cX7_at 50 = .ok (.goto 5, 3) := by decide +kernel
theorem dX7_at_53 : decode cX7_at 53 = .ok (.bipush (-2), 2) := by decide +kernel
theorem dX7_at_55 : decode cX7_at 55 = .ok (.invokevirtual 87, 3) := by decide +kernel
theorem dX7_at_58 : decode cX7_at 58 = .ok (.ireturn, 1) := by decide +kernel
theorem dX7_image_0 : decode cX7_image 0 = .ok (.aload_n 0, 1) := by decide +kernel
theorem dX7_image_1 : decode cX7_image 1 = .ok (.getfield 49, 3) := by decide +kernel
theorem dX7_image_4 : decode cX7_image 4 = .ok (.aload_n 0, 1) := by decide +kernel
theorem dX7_image_5 : decode cX7_image 5 = .ok (.getfield 12, 3) := by decide +kernel
theorem dX7_image_8 : decode cX7_image 8 = .ok (.iload_n 1, 1) := by decide +kernel
theorem dX7_image_9 : decode cX7_image 9 = .ok (.invokevirtual 122, 3) := by decide +kernel
theorem dX7_image_12 : decode cX7_image 12 = .ok (.ifCond .eq 18, 3) := by decide +kernel
theorem dX7_image_15 : decode cX7_image 15 = .ok (.aload_n 0, 1) := by decide +kernel
theorem dX7_image_16 : decode cX7_image 16 = .ok (.getfield 19, 3) := by decide +kernel
theorem dX7_image_19 : decode cX7_image 19 = .ok (.iload_n 1, 1) := by decide +kernel
theorem dX7_image_20 : decode cX7_image 20 = .ok (.invokevirtual 125, 3) := by decide +kernel
theorem dX7_image_23 : decode cX7_image 23 = .ok (.iload_n 2, 1) := by decide +kernel
theorem dX7_image_24 : decode cX7_image 24 = .ok (.invokevirtual 129, 3) := by decide +kernel
theorem dX7_image_27 : decode cX7_image 27 = .ok (.goto 5, 3) := by decide +kernel
theorem dX7_image_30 : decode cX7_image 30 = .ok (.bipush (-2), 2) := by decide +kernel
theorem dX7_image_32 : decode cX7_image 32 = .ok (.invokevirtual 87, 3) := by decide +kernel
theorem dX7_image_35 : decode cX7_image 35 = .ok (.ireturn, 1) := by decide +kernel
theorem dX7_imaged_0 : decode cX7_imaged 0 = .ok (.aload_n 0, 1) := by decide +kernel
theorem dX7_imaged_1 : decode cX7_imaged 1 = .ok (.getfield 12, 3) := by decide +kernel
theorem dX7_imaged_4 : decode cX7_imaged 4 = .ok (.iload_n 1, 1) := by decide +kernel
theorem dX7_imaged_5 : decode cX7_imaged 5 = .ok (.invokevirtual 122, 3) := by decide +kernel
theorem dX7_imaged_8 : decode cX7_imaged 8 = .ok (.ifCond .eq 7, 3) := by decide +kernel
theorem dX7_imaged_11 : decode cX7_imaged 11 = .ok (.iload_n 3, 1) := by decide +kernel
theorem dX7_imaged_12 : decode cX7_imaged 12 = .ok (.ifCond .ge 13, 3) := by decide +kernel
theorem dX7_imaged_15 : decode cX7_imaged 15 = .ok (.aload_n 0, 1) := by decide +kernel
theorem dX7_imaged_16 : decode cX7_imaged 16 = .ok (.getfield 49, 3) := by decide +kernel
theorem dX7_imaged_19 : decode cX7_imaged 19 = .ok (.bipush (-2), 2) := by decide +kernel
theorem dX7_imaged_21 : decode cX7_imaged 21 = .ok (.invokevirtual 87, 3) := by decide +kernel
theorem dX7_imaged_24 : decode cX7_imaged 24 = .ok (.ireturn, 1) := by decide +kernel
theorem dX7_imaged_25 : decode cX7_imaged 25 = .ok (.aload_n 0, 1) := by decide +kernel
theorem dX7_imaged_26 : decode cX7_imaged 26 = .ok (.getfield 19, 3) := by decide +kernel
theorem dX7_imaged_29 : decode cX7_imaged 29 = .ok (.iload_n 1, 1) := by decide +kernel
theorem dX7_imaged_30 : decode cX7_imaged 30 = .ok (.invokevirtual 125, 3) := by decide +kernel
theorem dX7_imaged_33 : decode cX7_imaged 33 = .ok (.astore 4, 2) := by decide +kernel
theorem dX7_imaged_35 : decode cX7_imaged 35 = .ok (.aload 4, 2) := by decide +kernel
theorem dX7_imaged_37 : decode cX7_imaged 37 = .ok (.iload_n 2, 1) := by decide +kernel
theorem dX7_imaged_38 : decode cX7_imaged 38 = .ok (.invokevirtual 134, 3) := by decide +kernel
theorem dX7_imaged_41 : decode cX7_imaged 41 = .ok (.ifCond .ne 13, 3) := by decide +kernel
theorem dX7_imaged_44 : decode cX7_imaged 44 = .ok (.aload_n 0, 1) := by decide +kernel
theorem dX7_imaged_45 : decode cX7_imaged 45 = .ok (.getfield 49, 3) := by decide +kernel
theorem dX7_imaged_48 : decode cX7_imaged 48 = .ok (.bipush (-2), 2) := by decide +kernel
theorem dX7_imaged_50 : decode cX7_imaged 50 = .ok (.invokevirtual 87, 3) := by decide +kernel
theorem dX7_imaged_53 : decode cX7_imaged 53 = .ok (.ireturn, 1) := by decide +kernel
theorem dX7_imaged_54 : decode cX7_imaged 54 = .ok (.iload_n 3, 1) := by decide +kernel
theorem dX7_imaged_55 : decode cX7_imaged 55 = .ok (.aload 4, 2) := by decide +kernel
theorem dX7_imaged_57 : decode cX7_imaged 57 = .ok (.iload_n 2, 1) := by decide +kernel
theorem dX7_imaged_58 : decode cX7_imaged 58 = .ok (.invokevirtual 137, 3) := by decide +kernel
theorem dX7_imaged_61 : decode cX7_imaged 61 = .ok (.if_icmp .ge 13, 3) := by decide +kernel
theorem dX7_imaged_64 : decode cX7_imaged 64 = .ok (.aload 4, 2) := by decide +kernel
theorem dX7_imaged_66 : decode cX7_imaged 66 = .ok (.iload_n 2, 1) := by decide +kernel
theorem dX7_imaged_67 : decode cX7_imaged 67 = .ok (.iload_n 3, 1) := by decide +kernel
theorem dX7_imaged_68 : decode cX7_imaged 68 = .ok (.invokevirtual 138, 3) := by decide +kernel
theorem dX7_imaged_71 : decode cX7_imaged 71 = .ok (.goto 5, 3) := by decide +kernel
theorem dX7_imaged_74 : decode cX7_imaged 74 = .ok (.bipush (-5), 2) := by decide +kernel
theorem dX7_imaged_76 : decode cX7_imaged 76 = .ok (.ireturn, 1) := by decide +kernel
theorem dX7_like_0 : decode cX7_like 0 = .ok (.aload_n 0, 1) := by decide +kernel
theorem dX7_like_1 : decode cX7_like 1 = .ok (.getfield 12, 3) := by decide +kernel
theorem dX7_like_4 : decode cX7_like 4 = .ok (.iload_n 1, 1) := by decide +kernel
theorem dX7_like_5 : decode cX7_like 5 = .ok (.invokevirtual 105, 3) := by decide +kernel
theorem dX7_like_8 : decode cX7_like 8 = .ok (.ifCond .ne 13, 3) := by decide +kernel
theorem dX7_like_11 : decode cX7_like 11 = .ok (.aload_n 0, 1) := by decide +kernel
theorem dX7_like_12 : decode cX7_like 12 = .ok (.getfield 49, 3) := by decide +kernel
theorem dX7_like_15 : decode cX7_like 15 = .ok (.bipush (-2), 2) := by decide +kernel
theorem dX7_like_17 : decode cX7_like 17 = .ok (.invokevirtual 87, 3) := by decide +kernel
theorem dX7_like_20 : decode cX7_like 20 = .ok (.ireturn, 1) := by decide +kernel
theorem dX7_like_21 : decode cX7_like 21 = .ok (.aload_n 0, 1) := by decide +kernel
theorem dX7_like_22 : decode cX7_like 22 = .ok (.getfield 19, 3) := by decide +kernel
theorem dX7_like_25 : decode cX7_like 25 = .ok (.aload_n 0, 1) := by decide +kernel
theorem dX7_like_26 : decode cX7_like 26 = .ok (.getfield 12, 3) := by decide +kernel
theorem dX7_like_29 : decode cX7_like 29 = .ok (.iload_n 1, 1) := by decide +kernel
theorem dX7_like_30 : decode cX7_like 30 = .ok (.invokevirtual 109, 3) := by decide +kernel
theorem dX7_like_33 : decode cX7_like 33 = .ok (.pop, 1) := by decide +kernel
theorem dX7_like_34 : decode cX7_like 34 = .ok (.aload_n 0, 1) := by decide +kernel
theorem dX7_like_35 : decode cX7_like 35 = .ok (.getfield 19, 3) := by decide +kernel
theorem dX7_like_38 : decode cX7_like 38 = .ok (.aload_n 0, 1) := by decide +kernel
theorem dX7_like_39 : decode cX7_like 39 = .ok (.getfield 12, 3) := by decide +kernel
theorem dX7_like_42 : decode cX7_like 42 = .ok (.invokevirtual 139, 3) := by decide +kernel
theorem dX7_like_45 : decode cX7_like 45 = .ok (.ifCond .ne 13, 3) := by decide +kernel
theorem dX7_like_48 : decode cX7_like 48 = .ok (.aload_n 0, 1) := by decide +kernel
theorem dX7_like_49 : decode cX7_like 49 = .ok (.getfield 49, 3) := by decide +kernel
theorem dX7_like_52 : decode cX7_like 52 = .ok (.bipush (-3), 2) := by decide +kernel
theorem dX7_like_54 : decode cX7_like 54 = .ok (.invokevirtual 87, 3) := by decide +kernel
theorem dX7_like_57 : decode cX7_like 57 = .ok (.ireturn, 1) := by decide +kernel
theorem dX7_like_58 : decode cX7_like 58 = .ok (.aload_n 0, 1) := by decide +kernel
theorem dX7_like_59 : decode cX7_like 59 = .ok (.getfield 19, 3) := by decide +kernel
theorem dX7_like_62 : decode cX7_like 62 = .ok (.aload_n 0, 1) := by decide +kernel
theorem dX7_like_63 : decode cX7_like 63 = .ok (.getfield 12, 3) := by decide +kernel
theorem dX7_like_66 : decode cX7_like 66 = .ok (.invokevirtual 143, 3) := by decide +kernel
theorem dX7_like_69 : decode cX7_like 69 = .ok (.aload_n 0, 1) := by decide +kernel
theorem dX7_like_70 : decode cX7_like 70 = .ok (.getfield 19, 3) := by decide +kernel
theorem dX7_like_73 : decode cX7_like 73 = .ok (.aload_n 0, 1) := by decide +kernel
theorem dX7_like_74 : decode cX7_like 74 = .ok (.getfield 12, 3) := by decide +kernel
theorem dX7_like_77 : decode cX7_like 77 = .ok (.invokevirtual 146, 3) := by decide +kernel
theorem dX7_like_80 : decode cX7_like 80 = .ok (.istore_n 2, 1) := by decide +kernel
theorem dX7_like_81 : decode cX7_like 81 = .ok (.iload_n 2, 1) := by decide +kernel
theorem dX7_like_82 : decode cX7_like 82 = .ok (.aload_n 0, 1) := by decide +kernel
theorem dX7_like_83 : decode cX7_like 83 = .ok (.getfield 12, 3) := by decide +kernel
theorem dX7_like_86 : decode cX7_like 86 = .ok (.getfield 150, 3) := by decide +kernel
theorem dX7_like_89 : decode cX7_like 89 = .ok (.if_icmp .ge 7, 3) := by decide +kernel
theorem dX7_like_92 : decode cX7_like 92 = .ok (.iload_n 2, 1) := by decide +kernel
theorem dX7_like_93 : decode cX7_like 93 = .ok (.goto 4, 3) := by decide +kernel
theorem dX7_like_96 : decode cX7_like 96 = .ok (.iconst (-1), 1) := by decide +kernel
theorem dX7_like_97 : decode cX7_like 97 = .ok (.ireturn, 1) := by decide +kernel
theorem dX7_count_0 : decode cX7_count 0 = .ok (.aload_n 0, 1) := by decide +kernel
theorem dX7_count_1 : decode cX7_count 1 = .ok (.getfield 49, 3) := by decide +kernel
theorem dX7_count_4 : decode cX7_count 4 = .ok (.aload_n 0, 1) := by decide +kernel
theorem dX7_count_5 : decode cX7_count 5 = .ok (.iload_n 1, 1) := by decide +kernel
theorem dX7_count_6 : decode cX7_count 6 = .ok (.invokevirtual 154, 3) := by decide +kernel
theorem dX7_count_9 : decode cX7_count 9 = .ok (.invokevirtual 87, 3) := by decide +kernel
theorem dX7_count_12 : decode cX7_count 12 = .ok (.ireturn, 1) := by decide +kernel
theorem dX7_undefined_0 : decode cX7_undefined 0 = .ok (.aload_n 0, 1) := by decide +kernel
theorem dX7_undefined_1 : decode cX7_undefined 1 = .ok (.getfield 49, 3) := by decide +kernel
theorem dX7_undefined_4 : decode cX7_undefined 4 = .ok (.aload_n 0, 1) := by decide +kernel
theorem dX7_undefined_5 : decode cX7_undefined 5 = .ok (.getfield 49, 3) := by decide +kernel
theorem dX7_undefined_8 : decode cX7_undefined 8 = .ok (.iload_n 1, 1) := by decide +kernel
theorem dX7_undefined_9 : decode cX7_undefined 9 = .ok (.invokevirtual 157, 3) := by decide +kernel
theorem dX7_undefined_12 : decode cX7_undefined 12 = .ok (.invokevirtual 87, 3) := by decide +kernel
theorem dX7_undefined_15 : decode cX7_undefined 15 = .ok (.ireturn, 1) := by decide +kernel
theorem dX7_type_0 : decode cX7_type 0 = .ok (.aload_n 0, 1) := by decide +kernel
theorem dX7_type_1 : decode cX7_type 1 = .ok (.getfield 49, 3) := by decide +kernel
theorem dX7_type_4 : decode cX7_type 4 = .ok (.aload_n 0, 1) := by decide +kernel
theorem dX7_type_5 : decode cX7_type 5 = .ok (.getfield 35, 3) := by decide +kernel
theorem dX7_type_8 : decode cX7_type 8 = .ok (.iload_n 1, 1) := by decide +kernel
theorem dX7_type_9 : decode cX7_type 9 = .ok (.invokevirtual 160, 3) := by decide +kernel
theorem dX7_type_12 : decode cX7_type 12 = .ok (.invokevirtual 87, 3) := by decide +kernel
theorem dX7_type_15 : decode cX7_type 15 = .ok (.ireturn, 1) := by decide +kernel
theorem dX7_clear_0 : decode cX7_clear 0 = .ok (.aload_n 0, 1) := by decide +kernel
theorem dX7_clear_1 : decode cX7_clear 1 = .ok (.getfield 35, 3) := by decide +kernel
theorem dX7_clear_4 : decode cX7_clear 4 = .ok (.invokevirtual 163, 3) := by decide +kernel
theorem dX7_clear_7 : decode cX7_clear 7 = .ok (.ireturn, 1) := by decide +kernel
theorem dX7_does_0 : decode cX7_does 0 = .ok (.aload_n 0, 1) := by decide +kernel
theorem dX7_does_1 : decode cX7_does 1 = .ok (.getfield 35, 3) := by decide +kernel
theorem dX7_does_4 : decode cX7_does 4 = .ok (.invokevirtual 167, 3) := by decide +kernel
theorem dX7_does_7 : decode cX7_does 7 = .ok (.istore_n 1, 1) := by decide +kernel
theorem dX7_does_8 : decode cX7_does 8 = .ok (.iload_n 1, 1) := by decide +kernel
theorem dX7_does_9 : decode cX7_does 9 = .ok (.ifCond .lt 8, 3) := by decide +kernel
theorem dX7_does_12 : decode cX7_does 12 = .ok (.bipush (-10), 2) := by decide +kernel
theorem dX7_does_14 : decode cX7_does 14 = .ok (.iload_n 1, 1) := by decide +kernel
theorem dX7_does_15 : decode cX7_does 15 = .ok (.isub, 1) := by decide +kernel
theorem dX7_does_16 : decode cX7_does 16 = .ok (.ireturn, 1) := by decide +kernel
theorem dX7_does_17 : decode cX7_does 17 = .ok (.aload_n 0, 1) := by decide +kernel
theorem dX7_does_18 : decode cX7_does 18 = .ok (.getfield 42, 3) := by decide +kernel
theorem dX7_does_21 : decode cX7_does 21 = .ok (.aload_n 0, 1) := by decide +kernel
theorem dX7_does_22 : decode cX7_does 22 = .ok (.getfield 12, 3) := by decide +kernel
theorem dX7_does_25 : decode cX7_does 25 = .ok (.invokevirtual 53, 3) := by decide +kernel
theorem dX7_does_28 : decode cX7_does 28 = .ok (.aload_n 0, 1) := by decide +kernel
theorem dX7_does_29 : decode cX7_does 29 = .ok (.getfield 35, 3) := by decide +kernel
theorem dX7_does_32 : decode cX7_does 32 = .ok (.aload_n 0, 1) := by decide +kernel
theorem dX7_does_33 : decode cX7_does 33 = .ok (.getfield 28, 3) := by decide +kernel
theorem dX7_does_36 : decode cX7_does 36 = .ok (.aload_n 0, 1) := by decide +kernel
theorem dX7_does_37 : decode cX7_does 37 = .ok (.getfield 12, 3) := by decide +kernel
theorem dX7_does_40 : decode cX7_does 40 = .ok (.getfield 170, 3) := by decide +kernel
theorem dX7_does_43 : decode cX7_does 43 = .ok (.invokevirtual 173, 3) := by decide +kernel
theorem dX7_does_46 : decode cX7_does 46 = .ok (.istore_n 2, 1) := by decide +kernel
theorem dX7_does_47 : decode cX7_does 47 = .ok (.iload_n 2, 1) := by decide +kernel
theorem dX7_does_48 : decode cX7_does 48 = .ok (.ifCond .lt 13, 3) := by decide +kernel
theorem dX7_does_51 : decode cX7_does 51 = .ok (.aload_n 0, 1) := by decide +kernel
theorem dX7_does_52 : decode cX7_does 52 = .ok (.getfield 42, 3) := by decide +kernel
theorem dX7_does_55 : decode cX7_does 55 = .ok (.invokevirtual 177, 3) := by decide +kernel
theorem dX7_does_58 : decode cX7_does 58 = .ok (.goto 14, 3) := by decide +kernel
theorem dX7_does_61 : decode cX7_does 61 = .ok (.aload_n 0, 1) := by decide +kernel
theorem dX7_does_62 : decode cX7_does 62 = .ok (.getfield 42, 3) := by decide +kernel
theorem dX7_does_65 : decode cX7_does 65 = .ok (.aload_n 0, 1) := by decide +kernel
theorem dX7_does_66 : decode cX7_does 66 = .ok (.getfield 12, 3) := by decide +kernel
theorem dX7_does_69 : decode cX7_does 69 = .ok (.invokevirtual 180, 3) := by decide +kernel
theorem dX7_does_72 : decode cX7_does 72 = .ok (.iload_n 2, 1) := by decide +kernel
theorem dX7_does_73 : decode cX7_does 73 = .ok (.ireturn, 1) := by decide +kernel
theorem dX7_back_0 : decode cX7_back 0 = .ok (.aload_n 0, 1) := by decide +kernel
theorem dX7_back_1 : decode cX7_back 1 = .ok (.getfield 49, 3) := by decide +kernel
theorem dX7_back_4 : decode cX7_back 4 = .ok (.aload_n 0, 1) := by decide +kernel
theorem dX7_back_5 : decode cX7_back 5 = .ok (.getfield 42, 3) := by decide +kernel
theorem dX7_back_8 : decode cX7_back 8 = .ok (.aload_n 0, 1) := by decide +kernel
theorem dX7_back_9 : decode cX7_back 9 = .ok (.getfield 12, 3) := by decide +kernel
theorem dX7_back_12 : decode cX7_back 12 = .ok (.invokevirtual 183, 3) := by decide +kernel
theorem dX7_back_15 : decode cX7_back 15 = .ok (.invokevirtual 87, 3) := by decide +kernel
theorem dX7_back_18 : decode cX7_back 18 = .ok (.ireturn, 1) := by decide +kernel
theorem dX7_digest_0 : decode cX7_digest 0 = .ok (.ldc2_w 186, 3) := by decide +kernel
theorem dX7_digest_3 : decode cX7_digest 3 = .ok (.lstore_n 1, 1) := by decide +kernel
theorem dX7_digest_4 : decode cX7_digest 4 = .ok (.iconst 0, 1) := by decide +kernel
theorem dX7_digest_5 : decode cX7_digest 5 = .ok (.istore_n 3, 1) := by decide +kernel
theorem dX7_digest_6 : decode cX7_digest 6 = .ok (.iload_n 3, 1) := by decide +kernel
theorem dX7_digest_7 : decode cX7_digest 7 = .ok (.bipush 9, 2) := by decide +kernel
theorem dX7_digest_9 : decode cX7_digest 9 = .ok (.if_icmp .gt 19, 3) := by decide +kernel
theorem dX7_digest_12 : decode cX7_digest 12 = .ok (.lload_n 1, 1) := by decide +kernel
theorem dX7_digest_13 : decode cX7_digest 13 = .ok (.aload_n 0, 1) := by decide +kernel
theorem dX7_digest_14 : decode cX7_digest 14 = .ok (.iload_n 3, 1) := by decide +kernel
theorem dX7_digest_15 : decode cX7_digest 15 = .ok (.invokevirtual 154, 3) := by decide +kernel
theorem dX7_digest_18 : decode cX7_digest 18 = .ok (.invokestatic 188, 3) := by decide +kernel
theorem dX7_digest_21 : decode cX7_digest 21 = .ok (.lstore_n 1, 1) := by decide +kernel
theorem dX7_digest_22 : decode cX7_digest 22 = .ok (.iinc 3 1, 3) := by decide +kernel
theorem dX7_digest_25 : decode cX7_digest 25 = .ok (.goto (-19), 3) := by decide +kernel
theorem dX7_digest_28 : decode cX7_digest 28 = .ok (.iconst 1, 1) := by decide +kernel
theorem dX7_digest_29 : decode cX7_digest 29 = .ok (.istore_n 3, 1) := by decide +kernel
theorem dX7_digest_30 : decode cX7_digest 30 = .ok (.iload_n 3, 1) := by decide +kernel
theorem dX7_digest_31 : decode cX7_digest 31 = .ok (.bipush 9, 2) := by decide +kernel
theorem dX7_digest_33 : decode cX7_digest 33 = .ok (.if_icmp .gt 22, 3) := by decide +kernel
theorem dX7_digest_36 : decode cX7_digest 36 = .ok (.lload_n 1, 1) := by decide +kernel
theorem dX7_digest_37 : decode cX7_digest 37 = .ok (.aload_n 0, 1) := by decide +kernel
theorem dX7_digest_38 : decode cX7_digest 38 = .ok (.getfield 49, 3) := by decide +kernel
theorem dX7_digest_41 : decode cX7_digest 41 = .ok (.iload_n 3, 1) := by decide +kernel
theorem dX7_digest_42 : decode cX7_digest 42 = .ok (.invokevirtual 157, 3) := by decide +kernel
theorem dX7_digest_45 : decode cX7_digest 45 = .ok (.invokestatic 188, 3) := by decide +kernel
theorem dX7_digest_48 : decode cX7_digest 48 = .ok (.lstore_n 1, 1) := by decide +kernel
theorem dX7_digest_49 : decode cX7_digest 49 = .ok (.iinc 3 1, 3) := by decide +kernel
theorem dX7_digest_52 : decode cX7_digest 52 = .ok (.goto (-22), 3) := by decide +kernel
theorem dX7_digest_55 : decode cX7_digest 55 = .ok (.iconst 0, 1) := by decide +kernel
theorem dX7_digest_56 : decode cX7_digest 56 = .ok (.istore_n 3, 1) := by decide +kernel
theorem dX7_digest_57 : decode cX7_digest 57 = .ok (.iload_n 3, 1) := by decide +kernel
theorem dX7_digest_58 : decode cX7_digest 58 = .ok (.bipush 6, 2) := by decide +kernel
theorem dX7_digest_60 : decode cX7_digest 60 = .ok (.if_icmp .ge 39, 3) := by decide +kernel
theorem dX7_digest_63 : decode cX7_digest 63 = .ok (.iconst 0, 1) := by decide +kernel
theorem dX7_digest_64 : decode cX7_digest 64 = .ok (.istore 4, 2) := by decide +kernel
theorem dX7_digest_66 : decode cX7_digest 66 = .ok (.iload 4, 2) := by decide +kernel
theorem dX7_digest_68 : decode cX7_digest 68 = .ok (.iconst 2, 1) := by decide +kernel
theorem dX7_digest_69 : decode cX7_digest 69 = .ok (.if_icmp .gt 24, 3) := by decide +kernel
theorem dX7_digest_72 : decode cX7_digest 72 = .ok (.lload_n 1, 1) := by decide +kernel
theorem dX7_digest_73 : decode cX7_digest 73 = .ok (.aload_n 0, 1) := by decide +kernel
theorem dX7_digest_74 : decode cX7_digest 74 = .ok (.getfield 12, 3) := by decide +kernel
theorem dX7_digest_77 : decode cX7_digest 77 = .ok (.iload_n 3, 1) := by decide +kernel
theorem dX7_digest_78 : decode cX7_digest 78 = .ok (.iload 4, 2) := by decide +kernel
theorem dX7_digest_80 : decode cX7_digest 80 = .ok (.invokevirtual 102, 3) := by decide +kernel
theorem dX7_digest_83 : decode cX7_digest 83 = .ok (.invokestatic 188, 3) := by decide +kernel
theorem dX7_digest_86 : decode cX7_digest 86 = .ok (.lstore_n 1, 1) := by decide +kernel
theorem dX7_digest_87 : decode cX7_digest 87 = .ok (.iinc 4 1, 3) := by decide +kernel
theorem dX7_digest_90 : decode cX7_digest 90 = .ok (.goto (-24), 3) := by decide +kernel
theorem dX7_digest_93 : decode cX7_digest 93 = .ok (.iinc 3 1, 3) := by decide +kernel
theorem dX7_digest_96 : decode cX7_digest 96 = .ok (.goto (-39), 3) := by decide +kernel
theorem dX7_digest_99 : decode cX7_digest 99 = .ok (.iconst 0, 1) := by decide +kernel
theorem dX7_digest_100 : decode cX7_digest 100 = .ok (.istore_n 3, 1) := by decide +kernel
theorem dX7_digest_101 : decode cX7_digest 101 = .ok (.iload_n 3, 1) := by decide +kernel
theorem dX7_digest_102 : decode cX7_digest 102 = .ok (.aload_n 0, 1) := by decide +kernel
theorem dX7_digest_103 : decode cX7_digest 103 = .ok (.getfield 12, 3) := by decide +kernel
theorem dX7_digest_106 : decode cX7_digest 106 = .ok (.getfield 192, 3) := by decide +kernel
theorem dX7_digest_109 : decode cX7_digest 109 = .ok (.if_icmp .ge 16, 3) := by decide +kernel
theorem dX7_digest_112 : decode cX7_digest 112 = .ok (.aload_n 0, 1) := by decide +kernel
theorem dX7_digest_113 : decode cX7_digest 113 = .ok (.lload_n 1, 1) := by decide +kernel
theorem dX7_digest_114 : decode cX7_digest 114 = .ok (.iload_n 3, 1) := by decide +kernel
theorem dX7_digest_115 : decode cX7_digest 115 = .ok (.invokevirtual 195, 3) := by decide +kernel
theorem dX7_digest_118 : decode cX7_digest 118 = .ok (.lstore_n 1, 1) := by decide +kernel
theorem dX7_digest_119 : decode cX7_digest 119 = .ok (.iinc 3 1, 3) := by decide +kernel
theorem dX7_digest_122 : decode cX7_digest 122 = .ok (.goto (-21), 3) := by decide +kernel
theorem dX7_digest_125 : decode cX7_digest 125 = .ok (.iconst 0, 1) := by decide +kernel
theorem dX7_digest_126 : decode cX7_digest 126 = .ok (.istore_n 3, 1) := by decide +kernel
theorem dX7_digest_127 : decode cX7_digest 127 = .ok (.iload_n 3, 1) := by decide +kernel
theorem dX7_digest_128 : decode cX7_digest 128 = .ok (.aload_n 0, 1) := by decide +kernel
theorem dX7_digest_129 : decode cX7_digest 129 = .ok (.getfield 12, 3) := by decide +kernel
theorem dX7_digest_132 : decode cX7_digest 132 = .ok (.getfield 150, 3) := by decide +kernel
theorem dX7_digest_135 : decode cX7_digest 135 = .ok (.if_icmp .ge 16, 3) := by decide +kernel
theorem dX7_digest_138 : decode cX7_digest 138 = .ok (.aload_n 0, 1) := by decide +kernel
theorem dX7_digest_139 : decode cX7_digest 139 = .ok (.lload_n 1, 1) := by decide +kernel
theorem dX7_digest_140 : decode cX7_digest 140 = .ok (.iload_n 3, 1) := by decide +kernel
theorem dX7_digest_141 : decode cX7_digest 141 = .ok (.invokevirtual 198, 3) := by decide +kernel
theorem dX7_digest_144 : decode cX7_digest 144 = .ok (.lstore_n 1, 1) := by decide +kernel
theorem dX7_digest_145 : decode cX7_digest 145 = .ok (.iinc 3 1, 3) := by decide +kernel
theorem dX7_digest_148 : decode cX7_digest 148 = .ok (.goto (-21), 3) := by decide +kernel
theorem dX7_digest_151 : decode cX7_digest 151 = .ok (.lload_n 1, 1) := by decide +kernel
theorem dX7_digest_152 : decode cX7_digest 152 = .ok (.lreturn, 1) := by decide +kernel
theorem dX7_digestOfBlock_0 : decode cX7_digestOfBlock 0 = .ok (.lload_n 1, 1) := by decide +kernel
theorem dX7_digestOfBlock_1 : decode cX7_digestOfBlock 1 = .ok (.lstore 4, 2) := by decide +kernel
theorem dX7_digestOfBlock_3 : decode cX7_digestOfBlock 3 = .ok (.iconst 0, 1) := by decide +kernel
theorem dX7_digestOfBlock_4 : decode cX7_digestOfBlock 4 = .ok (.istore 6, 2) := by decide +kernel
theorem dX7_digestOfBlock_6 : decode cX7_digestOfBlock 6 = .ok (.iload 6, 2) := by decide +kernel
theorem dX7_digestOfBlock_8 : decode cX7_digestOfBlock 8 = .ok (.iconst 4, 1) := by decide +kernel
theorem dX7_digestOfBlock_9 : decode cX7_digestOfBlock 9 = .ok (.if_icmp .gt 26, 3) := by decide +kernel
theorem dX7_digestOfBlock_12 : decode cX7_digestOfBlock 12 = .ok (.lload 4, 2) := by decide +kernel
theorem dX7_digestOfBlock_14 : decode cX7_digestOfBlock 14 = .ok (.aload_n 0, 1) := by decide +kernel
theorem dX7_digestOfBlock_15 : decode cX7_digestOfBlock 15 = .ok (.getfield 12, 3) := by decide +kernel
theorem dX7_digestOfBlock_18 : decode cX7_digestOfBlock 18 = .ok (.iload_n 3, 1) := by decide +kernel
theorem dX7_digestOfBlock_19 : decode cX7_digestOfBlock 19 = .ok (.iload 6, 2) := by decide +kernel
theorem dX7_digestOfBlock_21 : decode cX7_digestOfBlock 21 = .ok (.invokevirtual 113, 3) := by decide +kernel
theorem dX7_digestOfBlock_24 : decode cX7_digestOfBlock 24 = .ok (.invokestatic 188, 3) := by decide +kernel
theorem dX7_digestOfBlock_27 : decode cX7_digestOfBlock 27 = .ok (.lstore 4, 2) := by decide +kernel
theorem dX7_digestOfBlock_29 : decode cX7_digestOfBlock 29 = .ok (.iinc 6 1, 3) := by decide +kernel
theorem dX7_digestOfBlock_32 : decode cX7_digestOfBlock 32 = .ok (.goto (-26), 3) := by decide +kernel
theorem dX7_digestOfBlock_35 : decode cX7_digestOfBlock 35 = .ok (.iconst 0, 1) := by decide +kernel
theorem dX7_digestOfBlock_36 : decode cX7_digestOfBlock 36 = .ok (.istore 6, 2) := by decide +kernel
theorem dX7_digestOfBlock_38 : decode cX7_digestOfBlock 38 = .ok (.iload 6, 2) := by decide +kernel
theorem dX7_digestOfBlock_40 : decode cX7_digestOfBlock 40 = .ok (.aload_n 0, 1) := by decide +kernel
theorem dX7_digestOfBlock_41 : decode cX7_digestOfBlock 41 = .ok (.getfield 12, 3) := by decide +kernel
theorem dX7_digestOfBlock_44 : decode cX7_digestOfBlock 44 = .ok (.iload_n 3, 1) := by decide +kernel
theorem dX7_digestOfBlock_45 : decode cX7_digestOfBlock 45 = .ok (.invokevirtual 116, 3) := by decide +kernel
theorem dX7_digestOfBlock_48 : decode cX7_digestOfBlock 48 = .ok (.if_icmp .ge 26, 3) := by decide +kernel
theorem dX7_digestOfBlock_51 : decode cX7_digestOfBlock 51 = .ok (.lload 4, 2) := by decide +kernel
theorem dX7_digestOfBlock_53 : decode cX7_digestOfBlock 53 = .ok (.aload_n 0, 1) := by decide +kernel
theorem dX7_digestOfBlock_54 : decode cX7_digestOfBlock 54 = .ok (.getfield 12, 3) := by decide +kernel
theorem dX7_digestOfBlock_57 : decode cX7_digestOfBlock 57 = .ok (.iload_n 3, 1) := by decide +kernel
theorem dX7_digestOfBlock_58 : decode cX7_digestOfBlock 58 = .ok (.iload 6, 2) := by decide +kernel
theorem dX7_digestOfBlock_60 : decode cX7_digestOfBlock 60 = .ok (.invokevirtual 119, 3) := by decide +kernel
theorem dX7_digestOfBlock_63 : decode cX7_digestOfBlock 63 = .ok (.invokestatic 188, 3) := by decide +kernel
theorem dX7_digestOfBlock_66 : decode cX7_digestOfBlock 66 = .ok (.lstore 4, 2) := by decide +kernel
theorem dX7_digestOfBlock_68 : decode cX7_digestOfBlock 68 = .ok (.iinc 6 1, 3) := by decide +kernel
theorem dX7_digestOfBlock_71 : decode cX7_digestOfBlock 71 = .ok (.goto (-33), 3) := by decide +kernel
theorem dX7_digestOfBlock_74 : decode cX7_digestOfBlock 74 = .ok (.lload 4, 2) := by decide +kernel
theorem dX7_digestOfBlock_76 : decode cX7_digestOfBlock 76 = .ok (.lreturn, 1) := by decide +kernel
theorem dX7_digestOfImage_0 : decode cX7_digestOfImage 0 = .ok (.lload_n 1, 1) := by decide +kernel
theorem dX7_digestOfImage_1 : decode cX7_digestOfImage 1 = .ok (.lstore 4, 2) := by decide +kernel
theorem dX7_digestOfImage_3 : decode cX7_digestOfImage 3 = .ok (.aload_n 0, 1) := by decide +kernel
theorem dX7_digestOfImage_4 : decode cX7_digestOfImage 4 = .ok (.getfield 19, 3) := by decide +kernel
theorem dX7_digestOfImage_7 : decode cX7_digestOfImage 7 = .ok (.iload_n 3, 1) := by decide +kernel
theorem dX7_digestOfImage_8 : decode cX7_digestOfImage 8 = .ok (.invokevirtual 125, 3) := by decide +kernel
theorem dX7_digestOfImage_11 : decode cX7_digestOfImage 11 = .ok (.astore 6, 2) := by decide +kernel
theorem dX7_digestOfImage_13 : decode cX7_digestOfImage 13 = .ok (.iconst 0, 1) := by decide +kernel
theorem dX7_digestOfImage_14 : decode cX7_digestOfImage 14 = .ok (.istore 7, 2) := by decide +kernel
theorem dX7_digestOfImage_16 : decode cX7_digestOfImage 16 = .ok (.iload 7, 2) := by decide +kernel
theorem dX7_digestOfImage_18 : decode cX7_digestOfImage 18 = .ok (.iconst 2, 1) := by decide +kernel
theorem dX7_digestOfImage_19 : decode cX7_digestOfImage 19 = .ok (.if_icmp .gt 23, 3) := by decide +kernel
theorem dX7_digestOfImage_22 : decode cX7_digestOfImage 22 = .ok (.lload 4, 2) := by decide +kernel
theorem dX7_digestOfImage_24 : decode cX7_digestOfImage 24 = .ok (.aload 6, 2) := by decide +kernel
theorem dX7_digestOfImage_26 : decode cX7_digestOfImage 26 = .ok (.iload 7, 2) := by decide +kernel
theorem dX7_digestOfImage_28 : decode cX7_digestOfImage 28 = .ok (.invokevirtual 129, 3) := by decide +kernel
theorem dX7_digestOfImage_31 : decode cX7_digestOfImage 31 = .ok (.invokestatic 188, 3) := by decide +kernel
theorem dX7_digestOfImage_34 : decode cX7_digestOfImage 34 = .ok (.lstore 4, 2) := by decide +kernel
theorem dX7_digestOfImage_36 : decode cX7_digestOfImage 36 = .ok (.iinc 7 1, 3) := by decide +kernel
theorem dX7_digestOfImage_39 : decode cX7_digestOfImage 39 = .ok (.goto (-23), 3) := by decide +kernel
theorem dX7_digestOfImage_42 : decode cX7_digestOfImage 42 = .ok (.iconst 0, 1) := by decide +kernel
theorem dX7_digestOfImage_43 : decode cX7_digestOfImage 43 = .ok (.istore 7, 2) := by decide +kernel
theorem dX7_digestOfImage_45 : decode cX7_digestOfImage 45 = .ok (.iload 7, 2) := by decide +kernel
theorem dX7_digestOfImage_47 : decode cX7_digestOfImage 47 = .ok (.aload 6, 2) := by decide +kernel
theorem dX7_digestOfImage_49 : decode cX7_digestOfImage 49 = .ok (.getfield 201, 3) := by decide +kernel
theorem dX7_digestOfImage_52 : decode cX7_digestOfImage 52 = .ok (.if_icmp .ge 46, 3) := by decide +kernel
theorem dX7_digestOfImage_55 : decode cX7_digestOfImage 55 = .ok (.iconst 0, 1) := by decide +kernel
theorem dX7_digestOfImage_56 : decode cX7_digestOfImage 56 = .ok (.istore 8, 2) := by decide +kernel
theorem dX7_digestOfImage_58 : decode cX7_digestOfImage 58 = .ok (.iload 8, 2) := by decide +kernel
theorem dX7_digestOfImage_60 : decode cX7_digestOfImage 60 = .ok (.aload 6, 2) := by decide +kernel
theorem dX7_digestOfImage_62 : decode cX7_digestOfImage 62 = .ok (.iload 7, 2) := by decide +kernel
theorem dX7_digestOfImage_64 : decode cX7_digestOfImage 64 = .ok (.invokevirtual 137, 3) := by decide +kernel
theorem dX7_digestOfImage_67 : decode cX7_digestOfImage 67 = .ok (.if_icmp .ge 25, 3) := by decide +kernel
theorem dX7_digestOfImage_70 : decode cX7_digestOfImage 70 = .ok (.lload 4, 2) := by decide +kernel
theorem dX7_digestOfImage_72 : decode cX7_digestOfImage 72 = .ok (.aload 6, 2) := by decide +kernel
theorem dX7_digestOfImage_74 : decode cX7_digestOfImage 74 = .ok (.iload 7, 2) := by decide +kernel
theorem dX7_digestOfImage_76 : decode cX7_digestOfImage 76 = .ok (.iload 8, 2) := by decide +kernel
theorem dX7_digestOfImage_78 : decode cX7_digestOfImage 78 = .ok (.invokevirtual 138, 3) := by decide +kernel
theorem dX7_digestOfImage_81 : decode cX7_digestOfImage 81 = .ok (.invokestatic 188, 3) := by decide +kernel
theorem dX7_digestOfImage_84 : decode cX7_digestOfImage 84 = .ok (.lstore 4, 2) := by decide +kernel
theorem dX7_digestOfImage_86 : decode cX7_digestOfImage 86 = .ok (.iinc 8 1, 3) := by decide +kernel
theorem dX7_digestOfImage_89 : decode cX7_digestOfImage 89 = .ok (.goto (-31), 3) := by decide +kernel
theorem dX7_digestOfImage_92 : decode cX7_digestOfImage 92 = .ok (.iinc 7 1, 3) := by decide +kernel
theorem dX7_digestOfImage_95 : decode cX7_digestOfImage 95 = .ok (.goto (-50), 3) := by decide +kernel
theorem dX7_digestOfImage_98 : decode cX7_digestOfImage 98 = .ok (.lload 4, 2) := by decide +kernel
theorem dX7_digestOfImage_100 : decode cX7_digestOfImage 100 = .ok (.lreturn, 1) := by decide +kernel
theorem dX7_mixed_0 : decode cX7_mixed 0 = .ok (.ldc2_w 204, 3) := by decide +kernel
theorem dX7_mixed_3 : decode cX7_mixed 3 = .ok (.lload_n 0, 1) := by decide +kernel
theorem dX7_mixed_4 : decode cX7_mixed 4 = .ok (.lmul, 1) := by decide +kernel
theorem dX7_mixed_5 : decode cX7_mixed 5 = .ok (.iload_n 2, 1) := by decide +kernel
theorem dX7_mixed_6 : decode cX7_mixed 6 = .ok (.i2l, 1) := by decide +kernel
theorem dX7_mixed_7 : decode cX7_mixed 7 = .ok (.ladd, 1) := by decide +kernel
theorem dX7_mixed_8 : decode cX7_mixed 8 = .ok (.lreturn, 1) := by decide +kernel
theorem dX7_counted_0 : decode cX7_counted 0 = .ok (.iload_n 1, 1) := by decide +kernel
theorem dX7_counted_1 : decode cX7_counted 1 = .ok (.tableswitch 135 0 9 #[55, 63, 71, 79, 87, 95, 103, 111, 119, 127], 55) := by decide +kernel
theorem dX7_counted_56 : decode cX7_counted 56 = .ok (.aload_n 0, 1) := by decide +kernel
theorem dX7_counted_57 : decode cX7_counted 57 = .ok (.getfield 12, 3) := by decide +kernel
theorem dX7_counted_60 : decode cX7_counted 60 = .ok (.getfield 192, 3) := by decide +kernel
theorem dX7_counted_63 : decode cX7_counted 63 = .ok (.ireturn, 1) := by decide +kernel
theorem dX7_counted_64 : decode cX7_counted 64 = .ok (.aload_n 0, 1) := by decide +kernel
theorem dX7_counted_65 : decode cX7_counted 65 = .ok (.getfield 12, 3) := by decide +kernel
theorem dX7_counted_68 : decode cX7_counted 68 = .ok (.getfield 150, 3) := by decide +kernel
theorem dX7_counted_71 : decode cX7_counted 71 = .ok (.ireturn, 1) := by decide +kernel
theorem dX7_counted_72 : decode cX7_counted 72 = .ok (.aload_n 0, 1) := by decide +kernel
theorem dX7_counted_73 : decode cX7_counted 73 = .ok (.getfield 12, 3) := by decide +kernel
theorem dX7_counted_76 : decode cX7_counted 76 = .ok (.invokevirtual 206, 3) := by decide +kernel
theorem dX7_counted_79 : decode cX7_counted 79 = .ok (.ireturn, 1) := by decide +kernel
theorem dX7_counted_80 : decode cX7_counted 80 = .ok (.aload_n 0, 1) := by decide +kernel
theorem dX7_counted_81 : decode cX7_counted 81 = .ok (.getfield 12, 3) := by decide +kernel
theorem dX7_counted_84 : decode cX7_counted 84 = .ok (.getfield 170, 3) := by decide +kernel
theorem dX7_counted_87 : decode cX7_counted 87 = .ok (.ireturn, 1) := by decide +kernel
theorem dX7_counted_88 : decode cX7_counted 88 = .ok (.aload_n 0, 1) := by decide +kernel
theorem dX7_counted_89 : decode cX7_counted 89 = .ok (.getfield 49, 3) := by decide +kernel
theorem dX7_counted_92 : decode cX7_counted 92 = .ok (.getfield 209, 3) := by decide +kernel
theorem dX7_counted_95 : decode cX7_counted 95 = .ok (.ireturn, 1) := by decide +kernel
theorem dX7_counted_96 : decode cX7_counted 96 = .ok (.aload_n 0, 1) := by decide +kernel
theorem dX7_counted_97 : decode cX7_counted 97 = .ok (.getfield 49, 3) := by decide +kernel
theorem dX7_counted_100 : decode cX7_counted 100 = .ok (.getfield 212, 3) := by decide +kernel
theorem dX7_counted_103 : decode cX7_counted 103 = .ok (.ireturn, 1) := by decide +kernel
theorem dX7_counted_104 : decode cX7_counted 104 = .ok (.aload_n 0, 1) := by decide +kernel
theorem dX7_counted_105 : decode cX7_counted 105 = .ok (.getfield 49, 3) := by decide +kernel
theorem dX7_counted_108 : decode cX7_counted 108 = .ok (.getfield 215, 3) := by decide +kernel
theorem dX7_counted_111 : decode cX7_counted 111 = .ok (.ireturn, 1) := by decide +kernel
theorem dX7_counted_112 : decode cX7_counted 112 = .ok (.aload_n 0, 1) := by decide +kernel
theorem dX7_counted_113 : decode cX7_counted 113 = .ok (.getfield 49, 3) := by decide +kernel
theorem dX7_counted_116 : decode cX7_counted 116 = .ok (.invokevirtual 218, 3) := by decide +kernel
theorem dX7_counted_119 : decode cX7_counted 119 = .ok (.ireturn, 1) := by decide +kernel
theorem dX7_counted_120 : decode cX7_counted 120 = .ok (.aload_n 0, 1) := by decide +kernel
theorem dX7_counted_121 : decode cX7_counted 121 = .ok (.getfield 35, 3) := by decide +kernel
theorem dX7_counted_124 : decode cX7_counted 124 = .ok (.getfield 221, 3) := by decide +kernel
theorem dX7_counted_127 : decode cX7_counted 127 = .ok (.ireturn, 1) := by decide +kernel
theorem dX7_counted_128 : decode cX7_counted 128 = .ok (.aload_n 0, 1) := by decide +kernel
theorem dX7_counted_129 : decode cX7_counted 129 = .ok (.getfield 42, 3) := by decide +kernel
theorem dX7_counted_132 : decode cX7_counted 132 = .ok (.getfield 224, 3) := by decide +kernel
theorem dX7_counted_135 : decode cX7_counted 135 = .ok (.ireturn, 1) := by decide +kernel
theorem dX7_counted_136 : decode cX7_counted 136 = .ok (.bipush (-2), 2) := by decide +kernel
theorem dX7_counted_138 : decode cX7_counted 138 = .ok (.ireturn, 1) := by decide +kernel
theorem dX7_settled_0 : decode cX7_settled 0 = .ok (.iload_n 1, 1) := by decide +kernel
theorem dX7_settled_1 : decode cX7_settled 1 = .ok (.ifCond .lt 10, 3) := by decide +kernel
theorem dX7_settled_4 : decode cX7_settled 4 = .ok (.aload_n 0, 1) := by decide +kernel
theorem dX7_settled_5 : decode cX7_settled 5 = .ok (.getfield 42, 3) := by decide +kernel
theorem dX7_settled_8 : decode cX7_settled 8 = .ok (.invokevirtual 177, 3) := by decide +kernel
theorem dX7_settled_11 : decode cX7_settled 11 = .ok (.aload_n 0, 1) := by decide +kernel
theorem dX7_settled_12 : decode cX7_settled 12 = .ok (.getfield 49, 3) := by decide +kernel
theorem dX7_settled_15 : decode cX7_settled 15 = .ok (.iload_n 1, 1) := by decide +kernel
theorem dX7_settled_16 : decode cX7_settled 16 = .ok (.invokevirtual 87, 3) := by decide +kernel
theorem dX7_settled_19 : decode cX7_settled 19 = .ok (.ireturn, 1) := by decide +kernel
theorem dX7_isRegister_0 : decode cX7_isRegister 0 = .ok (.iload_n 0, 1) := by decide +kernel
theorem dX7_isRegister_1 : decode cX7_isRegister 1 = .ok (.ifCond .lt 13, 3) := by decide +kernel
theorem dX7_isRegister_4 : decode cX7_isRegister 4 = .ok (.iload_n 0, 1) := by decide +kernel
theorem dX7_isRegister_5 : decode cX7_isRegister 5 = .ok (.bipush 6, 2) := by decide +kernel
theorem dX7_isRegister_7 : decode cX7_isRegister 7 = .ok (.if_icmp .ge 7, 3) := by decide +kernel
theorem dX7_isRegister_10 : decode cX7_isRegister 10 = .ok (.iconst 1, 1) := by decide +kernel
theorem dX7_isRegister_11 : decode cX7_isRegister 11 = .ok (.goto 4, 3) := by decide +kernel
theorem dX7_isRegister_14 : decode cX7_isRegister 14 = .ok (.iconst 0, 1) := by decide +kernel
theorem dX7_isRegister_15 : decode cX7_isRegister 15 = .ok (.ireturn, 1) := by decide +kernel
theorem dX7_isPointerCode_0 : decode cX7_isPointerCode 0 = .ok (.iload_n 0, 1) := by decide +kernel
theorem dX7_isPointerCode_1 : decode cX7_isPointerCode 1 = .ok (.sipush 1000, 3) := by decide +kernel
theorem dX7_isPointerCode_4 : decode cX7_isPointerCode 4 = .ok (.if_icmp .lt 7, 3) := by decide +kernel
theorem dX7_isPointerCode_7 : decode cX7_isPointerCode 7 = .ok (.iconst 1, 1) := by decide +kernel
theorem dX7_isPointerCode_8 : decode cX7_isPointerCode 8 = .ok (.goto 4, 3) := by decide +kernel
theorem dX7_isPointerCode_11 : decode cX7_isPointerCode 11 = .ok (.iconst 0, 1) := by decide +kernel
theorem dX7_isPointerCode_12 : decode cX7_isPointerCode 12 = .ok (.ireturn, 1) := by decide +kernel
theorem dX7_pointerCode_0 : decode cX7_pointerCode 0 = .ok (.sipush 1000, 3) := by decide +kernel
theorem dX7_pointerCode_3 : decode cX7_pointerCode 3 = .ok (.bipush 100, 2) := by decide +kernel
theorem dX7_pointerCode_5 : decode cX7_pointerCode 5 = .ok (.iload_n 0, 1) := by decide +kernel
theorem dX7_pointerCode_6 : decode cX7_pointerCode 6 = .ok (.imul, 1) := by decide +kernel
theorem dX7_pointerCode_7 : decode cX7_pointerCode 7 = .ok (.iadd, 1) := by decide +kernel
theorem dX7_pointerCode_8 : decode cX7_pointerCode 8 = .ok (.iload_n 1, 1) := by decide +kernel
theorem dX7_pointerCode_9 : decode cX7_pointerCode 9 = .ok (.iadd, 1) := by decide +kernel
theorem dX7_pointerCode_10 : decode cX7_pointerCode 10 = .ok (.ireturn, 1) := by decide +kernel
theorem dX7_blockOfCode_0 : decode cX7_blockOfCode 0 = .ok (.iload_n 0, 1) := by decide +kernel
theorem dX7_blockOfCode_1 : decode cX7_blockOfCode 1 = .ok (.sipush 1000, 3) := by decide +kernel
theorem dX7_blockOfCode_4 : decode cX7_blockOfCode 4 = .ok (.isub, 1) := by decide +kernel
theorem dX7_blockOfCode_5 : decode cX7_blockOfCode 5 = .ok (.bipush 100, 2) := by decide +kernel
theorem dX7_blockOfCode_7 : decode cX7_blockOfCode 7 = .ok (.idiv, 1) := by decide +kernel
theorem dX7_blockOfCode_8 : decode cX7_blockOfCode 8 = .ok (.ireturn, 1) := by decide +kernel
theorem dX7_offsetOfCode_0 : decode cX7_offsetOfCode 0 = .ok (.iload_n 0, 1) := by decide +kernel
theorem dX7_offsetOfCode_1 : decode cX7_offsetOfCode 1 = .ok (.sipush 1000, 3) := by decide +kernel
theorem dX7_offsetOfCode_4 : decode cX7_offsetOfCode 4 = .ok (.isub, 1) := by decide +kernel
theorem dX7_offsetOfCode_5 : decode cX7_offsetOfCode 5 = .ok (.bipush 100, 2) := by decide +kernel
theorem dX7_offsetOfCode_7 : decode cX7_offsetOfCode 7 = .ok (.irem, 1) := by decide +kernel
theorem dX7_offsetOfCode_8 : decode cX7_offsetOfCode 8 = .ok (.ireturn, 1) := by decide +kernel
theorem dX8_init_0 : decode cX8_init 0 = .ok (.aload_n 0, 1) := by decide +kernel
theorem dX8_init_1 : decode cX8_init 1 = .ok (.invokespecial 1, 3) := by decide +kernel
theorem dX8_init_4 : decode cX8_init 4 = .ok (.aload_n 0, 1) := by decide +kernel
theorem dX8_init_5 : decode cX8_init 5 = .ok (.sipush 1219, 3) := by decide +kernel
theorem dX8_init_8 : decode cX8_init 8 = .ok (.newarray .int, 2) := by decide +kernel
theorem dX8_init_10 : decode cX8_init 10 = .ok (.putfield 7, 3) := by decide +kernel
theorem dX8_init_13 : decode cX8_init 13 = .ok (.aload_n 0, 1) := by decide +kernel
theorem dX8_init_14 : decode cX8_init 14 = .ok (.sipush 1219, 3) := by decide +kernel
theorem dX8_init_17 : decode cX8_init 17 = .ok (.newarray .int, 2) := by decide +kernel
theorem dX8_init_19 : decode cX8_init 19 = .ok (.putfield 13, 3) := by decide +kernel
theorem dX8_init_22 : decode cX8_init 22 = .ok (.aload_n 0, 1) := by decide +kernel
theorem dX8_init_23 : decode cX8_init 23 = .ok (.sipush 6095, 3) := by decide +kernel
theorem dX8_init_26 : decode cX8_init 26 = .ok (.newarray .int, 2) := by decide +kernel
theorem dX8_init_28 : decode cX8_init 28 = .ok (.putfield 16, 3) := by decide +kernel
theorem dX8_init_31 : decode cX8_init 31 = .ok (.aload_n 0, 1) := by decide +kernel
theorem dX8_init_32 : decode cX8_init 32 = .ok (.iconst 3, 1) := by decide +kernel
theorem dX8_init_33 : decode cX8_init 33 = .ok (.newarray .int, 2) := by decide +kernel
theorem dX8_init_35 : decode cX8_init 35 = .ok (.putfield 19, 3) := by decide +kernel
theorem dX8_init_38 : decode cX8_init 38 = .ok (.aload_n 0, 1) := by decide +kernel
theorem dX8_init_39 : decode cX8_init 39 = .ok (.bipush 10, 2) := by decide +kernel
theorem dX8_init_41 : decode cX8_init 41 = .ok (.newarray .int, 2) := by decide +kernel
theorem dX8_init_43 : decode cX8_init 43 = .ok (.putfield 22, 3) := by decide +kernel
theorem dX8_init_46 : decode cX8_init 46 = .ok (.aload_n 0, 1) := by decide +kernel
theorem dX8_init_47 : decode cX8_init 47 = .ok (.bipush 120, 2) := by decide +kernel
theorem dX8_init_49 : decode cX8_init 49 = .ok (.newarray .int, 2) := by decide +kernel
theorem dX8_init_51 : decode cX8_init 51 = .ok (.putfield 25, 3) := by decide +kernel
theorem dX8_init_54 : decode cX8_init 54 = .ok (.aload_n 0, 1) := by decide +kernel
theorem dX8_init_55 : decode cX8_init 55 = .ok (.bipush 12, 2) := by decide +kernel
theorem dX8_init_57 : decode cX8_init 57 = .ok (.newarray .int, 2) := by decide +kernel
theorem dX8_init_59 : decode cX8_init 59 = .ok (.putfield 28, 3) := by decide +kernel
theorem dX8_init_62 : decode cX8_init 62 = .ok (.aload_n 0, 1) := by decide +kernel
theorem dX8_init_63 : decode cX8_init 63 = .ok (.bipush 10, 2) := by decide +kernel
theorem dX8_init_65 : decode cX8_init 65 = .ok (.newarray .int, 2) := by decide +kernel
theorem dX8_init_67 : decode cX8_init 67 = .ok (.putfield 31, 3) := by decide +kernel
theorem dX8_init_70 : decode cX8_init 70 = .ok (.aload_n 0, 1) := by decide +kernel
theorem dX8_init_71 : decode cX8_init 71 = .ok (.sipush 131, 3) := by decide +kernel
theorem dX8_init_74 : decode cX8_init 74 = .ok (.newarray .int, 2) := by decide +kernel
theorem dX8_init_76 : decode cX8_init 76 = .ok (.putfield 34, 3) := by decide +kernel
theorem dX8_init_79 : decode cX8_init 79 = .ok (.aload_n 0, 1) := by decide +kernel
theorem dX8_init_80 : decode cX8_init 80 = .ok (.bipush 60, 2) := by decide +kernel
theorem dX8_init_82 : decode cX8_init 82 = .ok (.newarray .int, 2) := by decide +kernel
theorem dX8_init_84 : decode cX8_init 84 = .ok (.putfield 37, 3) := by decide +kernel
theorem dX8_init_87 : decode cX8_init 87 = .ok (.aload_n 0, 1) := by decide +kernel
theorem dX8_init_88 : decode cX8_init 88 = .ok (.sipush 180, 3) := by decide +kernel
theorem dX8_init_91 : decode cX8_init 91 = .ok (.newarray .int, 2) := by decide +kernel
theorem dX8_init_93 : decode cX8_init 93 = .ok (.putfield 40, 3) := by decide +kernel
theorem dX8_init_96 : decode cX8_init 96 = .ok (.aload_n 0, 1) := by decide +kernel
theorem dX8_init_97 : decode cX8_init 97 = .ok (.getfield 7, 3) := by decide +kernel
theorem dX8_init_100 : decode cX8_init 100 = .ok (.sipush 169, 3) := by decide +kernel
theorem dX8_init_103 : decode cX8_init 103 = .ok (.bipush 40, 2) := by decide +kernel
theorem dX8_init_105 : decode cX8_init 105 = .ok (.iastore, 1) := by decide +kernel
theorem dX8_init_106 : decode cX8_init 106 = .ok (.return_, 1) := by decide +kernel
theorem dX8_in_0 : decode cX8_in 0 = .ok (.iload_n 0, 1) := by decide +kernel
theorem dX8_in_1 : decode cX8_in 1 = .ok (.iload_n 1, 1) := by decide +kernel
theorem dX8_in_2 : decode cX8_in 2 = .ok (.if_icmp .lt 12, 3) := by decide +kernel
theorem dX8_in_5 : decode cX8_in 5 = .ok (.iload_n 0, 1) := by decide +kernel
theorem dX8_in_6 : decode cX8_in 6 = .ok (.iload_n 2, 1) := by decide +kernel
theorem dX8_in_7 : decode cX8_in 7 = .ok (.if_icmp .gt 7, 3) := by decide +kernel
theorem dX8_in_10 : decode cX8_in 10 = .ok (.iconst 1, 1) := by decide +kernel
theorem dX8_in_11 : decode cX8_in 11 = .ok (.goto 4, 3) := by decide +kernel
theorem dX8_in_14 : decode cX8_in 14 = .ok (.iconst 0, 1) := by decide +kernel
theorem dX8_in_15 : decode cX8_in 15 = .ok (.ireturn, 1) := by decide +kernel
theorem dX8_bad_0 : decode cX8_bad 0 = .ok (.aload_n 0, 1) := by decide +kernel
theorem dX8_bad_1 : decode cX8_bad 1 = .ok (.getfield 19, 3) := by decide +kernel
theorem dX8_bad_4 : decode cX8_bad 4 = .ok (.iconst 0, 1) := by decide +kernel
theorem dX8_bad_5 : decode cX8_bad 5 = .ok (.dup2, 1) := by decide +kernel
theorem dX8_bad_6 : decode cX8_bad 6 = .ok (.iaload, 1) := by decide +kernel
theorem dX8_bad_7 : decode cX8_bad 7 = .ok (.iconst 1, 1) := by decide +kernel
theorem dX8_bad_8 : decode cX8_bad 8 = .ok (.iadd, 1) := by decide +kernel
theorem dX8_bad_9 : decode cX8_bad 9 = .ok (.iastore, 1) := by decide +kernel
theorem dX8_bad_10 : decode cX8_bad 10 = .ok (.bipush (-2), 2) := by decide +kernel
theorem dX8_bad_12 : decode cX8_bad 12 = .ok (.ireturn, 1) := by decide +kernel
