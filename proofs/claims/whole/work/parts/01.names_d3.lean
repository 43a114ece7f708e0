theorem dX8_bytesOf_5 : decode cX8_bytesOf 5 = .ok (.iload 4, 2) := by decide +kernel
theorem dX8_bytesOf_7 : decode cX8_bytesOf 7 = .ok (.aload_n 0, 1) := by decide +kernel
theorem dX8_bytesOf_8 : decode cX8_bytesOf 8 = .ok (.iload_n 1, 1) := by decide +kernel
theorem dX8_bytesOf_9 : decode cX8_bytesOf 9 = .ok (.invokevirtual 68, 3) := by decide +kernel
theorem dX8_bytesOf_12 : decode cX8_bytesOf 12 = .ok (.if_icmp .ge 56, 3) := by decide +kernel
theorem dX8_bytesOf_15 : decode cX8_bytesOf 15 = .ok (.aload_n 0, 1) := by decide +kernel
theorem dX8_bytesOf_16 : decode cX8_bytesOf 16 = .ok (.getfield 7, 3) := by decide +kernel
theorem dX8_bytesOf_19 : decode cX8_bytesOf 19 = .ok (.iload_n 1, 1) := by decide +kernel
theorem dX8_bytesOf_20 : decode cX8_bytesOf 20 = .ok (.iload 4, 2) := by decide +kernel
theorem dX8_bytesOf_22 : decode cX8_bytesOf 22 = .ok (.invokestatic 81, 3) := by decide +kernel
theorem dX8_bytesOf_25 : decode cX8_bytesOf 25 = .ok (.iaload, 1) := by decide +kernel
theorem dX8_bytesOf_26 : decode cX8_bytesOf 26 = .ok (.istore 5, 2) := by decide +kernel
theorem dX8_bytesOf_28 : decode cX8_bytesOf 28 = .ok (.iload_n 3, 1) := by decide +kernel
theorem dX8_bytesOf_29 : decode cX8_bytesOf 29 = .ok (.iload_n 2, 1) := by decide +kernel
theorem dX8_bytesOf_30 : decode cX8_bytesOf 30 = .ok (.ifCond .eq 19, 3) := by decide +kernel
theorem dX8_bytesOf_33 : decode cX8_bytesOf 33 = .ok (.iload 5, 2) := by decide +kernel
theorem dX8_bytesOf_35 : decode cX8_bytesOf 35 = .ok (.sipush 1000, 3) := by decide +kernel
theorem dX8_bytesOf_38 : decode cX8_bytesOf 38 = .ok (.if_icmp .lt 7, 3) := by decide +kernel
theorem dX8_bytesOf_41 : decode cX8_bytesOf 41 = .ok (.iconst 1, 1) := by decide +kernel
theorem dX8_bytesOf_42 : decode cX8_bytesOf 42 = .ok (.goto 18, 3) := by decide +kernel
theorem dX8_bytesOf_45 : decode cX8_bytesOf 45 = .ok (.iconst 0, 1) := by decide +kernel
theorem dX8_bytesOf_46 : decode cX8_bytesOf 46 = .ok (.goto 14, 3) := by decide +kernel
theorem dX8_bytesOf_49 : decode cX8_bytesOf 49 = .ok (.iload 5, 2) := by decide +kernel
theorem dX8_bytesOf_51 : decode cX8_bytesOf 51 = .ok (.iconst (-1), 1) := by decide +kernel
theorem dX8_bytesOf_52 : decode cX8_bytesOf 52 = .ok (.if_icmp .ne 7, 3) := by decide +kernel
theorem dX8_bytesOf_55 : decode cX8_bytesOf 55 = .ok (.iconst 1, 1) := by decide +kernel
theorem dX8_bytesOf_56 : decode cX8_bytesOf 56 = .ok (.goto 4, 3) := by decide +kernel
theorem dX8_bytesOf_59 : decode cX8_bytesOf 59 = .ok (.iconst 0, 1) := by decide +kernel
theorem dX8_bytesOf_60 : decode cX8_bytesOf 60 = .ok (.iadd, 1) := by decide +kernel
theorem dX8_bytesOf_61 : decode cX8_bytesOf 61 = .ok (.istore_n 3, 1) := by decide +kernel
theorem dX8_bytesOf_62 : decode cX8_bytesOf 62 = .ok (.iinc 4 1, 3) := by decide +kernel
theorem dX8_bytesOf_65 : decode cX8_bytesOf 65 = .ok (.goto (-60), 3) := by decide +kernel
theorem dX8_bytesOf_68 : decode cX8_bytesOf 68 = .ok (.iload_n 3, 1) := by decide +kernel
theorem dX8_bytesOf_69 : decode cX8_bytesOf 69 = .ok (.ireturn, 1) := by decide +kernel
theorem dX8_reachedOf_0 : decode cX8_reachedOf 0 = .ok (.aload_n 0, 1) := by decide +kernel
theorem dX8_reachedOf_1 : decode cX8_reachedOf 1 = .ok (.iload_n 1, 1) := by decide +kernel
theorem dX8_reachedOf_2 : decode cX8_reachedOf 2 = .ok (.invokevirtual 113, 3) := by decide +kernel
theorem dX8_reachedOf_5 : decode cX8_reachedOf 5 = .ok (.aload_n 0, 1) := by decide +kernel
theorem dX8_reachedOf_6 : decode cX8_reachedOf 6 = .ok (.getfield 107, 3) := by decide +kernel
theorem dX8_reachedOf_9 : decode cX8_reachedOf 9 = .ok (.ireturn, 1) := by decide +kernel
theorem dX8_ofPiece_0 : decode cX8_ofPiece 0 = .ok (.iload_n 2, 1) := by decide +kernel
theorem dX8_ofPiece_1 : decode cX8_ofPiece 1 = .ok (.tableswitch 47 3 5 #[27, 34, 41], 27) := by decide +kernel
theorem dX8_ofPiece_28 : decode cX8_ofPiece 28 = .ok (.aload_n 0, 1) := by decide +kernel
theorem dX8_ofPiece_29 : decode cX8_ofPiece 29 = .ok (.iload_n 1, 1) := by decide +kernel
theorem dX8_ofPiece_30 : decode cX8_ofPiece 30 = .ok (.iconst 0, 1) := by decide +kernel
theorem dX8_ofPiece_31 : decode cX8_ofPiece 31 = .ok (.invokevirtual 180, 3) := by decide +kernel
theorem dX8_ofPiece_34 : decode cX8_ofPiece 34 = .ok (.ireturn, 1) := by decide +kernel
theorem dX8_ofPiece_35 : decode cX8_ofPiece 35 = .ok (.aload_n 0, 1) := by decide +kernel
theorem dX8_ofPiece_36 : decode cX8_ofPiece 36 = .ok (.iload_n 1, 1) := by decide +kernel
theorem dX8_ofPiece_37 : decode cX8_ofPiece 37 = .ok (.iconst 1, 1) := by decide +kernel
theorem dX8_ofPiece_38 : decode cX8_ofPiece 38 = .ok (.invokevirtual 180, 3) := by decide +kernel
theorem dX8_ofPiece_41 : decode cX8_ofPiece 41 = .ok (.ireturn, 1) := by decide +kernel
theorem dX8_ofPiece_42 : decode cX8_ofPiece 42 = .ok (.aload_n 0, 1) := by decide +kernel
theorem dX8_ofPiece_43 : decode cX8_ofPiece 43 = .ok (.iload_n 1, 1) := by decide +kernel
theorem dX8_ofPiece_44 : decode cX8_ofPiece 44 = .ok (.invokevirtual 184, 3) := by decide +kernel
theorem dX8_ofPiece_47 : decode cX8_ofPiece 47 = .ok (.ireturn, 1) := by decide +kernel
theorem dX8_ofPiece_48 : decode cX8_ofPiece 48 = .ok (.aload_n 0, 1) := by decide +kernel
theorem dX8_ofPiece_49 : decode cX8_ofPiece 49 = .ok (.getfield 7, 3) := by decide +kernel
theorem dX8_ofPiece_52 : decode cX8_ofPiece 52 = .ok (.iload_n 1, 1) := by decide +kernel
theorem dX8_ofPiece_53 : decode cX8_ofPiece 53 = .ok (.invokestatic 47, 3) := by decide +kernel
theorem dX8_ofPiece_56 : decode cX8_ofPiece 56 = .ok (.iload_n 2, 1) := by decide +kernel
theorem dX8_ofPiece_57 : decode cX8_ofPiece 57 = .ok (.iadd, 1) := by decide +kernel
theorem dX8_ofPiece_58 : decode cX8_ofPiece 58 = .ok (.iaload, 1) := by decide +kernel
theorem dX8_ofPiece_59 : decode cX8_ofPiece 59 = .ok (.ireturn, 1) := by decide +kernel
theorem dX8_piece_0 : decode cX8_piece 0 = .ok (.aload_n 0, 1) := by decide +kernel
theorem dX8_piece_1 : decode cX8_piece 1 = .ok (.iload_n 1, 1) := by decide +kernel
theorem dX8_piece_2 : decode cX8_piece 2 = .ok (.invokevirtual 187, 3) := by decide +kernel
theorem dX8_piece_5 : decode cX8_piece 5 = .ok (.ifCond .eq 21, 3) := by decide +kernel
theorem dX8_piece_8 : decode cX8_piece 8 = .ok (.iload_n 2, 1) := by decide +kernel
theorem dX8_piece_9 : decode cX8_piece 9 = .ok (.iconst 0, 1) := by decide +kernel
theorem dX8_piece_10 : decode cX8_piece 10 = .ok (.iconst 5, 1) := by decide +kernel
theorem dX8_piece_11 : decode cX8_piece 11 = .ok (.invokestatic 51, 3) := by decide +kernel
theorem dX8_piece_14 : decode cX8_piece 14 = .ok (.ifCond .eq 12, 3) := by decide +kernel
theorem dX8_piece_17 : decode cX8_piece 17 = .ok (.aload_n 0, 1) := by decide +kernel
theorem dX8_piece_18 : decode cX8_piece 18 = .ok (.iload_n 1, 1) := by decide +kernel
theorem dX8_piece_19 : decode cX8_piece 19 = .ok (.iload_n 2, 1) := by decide +kernel
theorem dX8_piece_20 : decode cX8_piece 20 = .ok (.invokevirtual 190, 3) := by decide +kernel
theorem dX8_piece_23 : decode cX8_piece 23 = .ok (.goto 7, 3) := by decide +kernel
theorem dX8_piece_26 : decode cX8_piece 26 = .ok (.aload_n 0, 1) := by decide +kernel
theorem dX8_piece_27 : decode cX8_piece 27 = .ok (.invokevirtual 174, 3) := by decide +kernel
theorem dX8_piece_30 : decode cX8_piece 30 = .ok (.ireturn, 1) := by decide +kernel
theorem dX8_at_0 : decode cX8_at 0 = .ok (.aload_n 0, 1) := by decide +kernel
theorem dX8_at_1 : decode cX8_at 1 = .ok (.iload_n 1, 1) := by decide +kernel
theorem dX8_at_2 : decode cX8_at 2 = .ok (.invokevirtual 187, 3) := by decide +kernel
theorem dX8_at_5 : decode cX8_at 5 = .ok (.ifCond .eq 31, 3) := by decide +kernel
theorem dX8_at_8 : decode cX8_at 8 = .ok (.iload_n 2, 1) := by decide +kernel
theorem dX8_at_9 : decode cX8_at 9 = .ok (.iconst 0, 1) := by decide +kernel
theorem dX8_at_10 : decode cX8_at 10 = .ok (.aload_n 0, 1) := by decide +kernel
theorem dX8_at_11 : decode cX8_at 11 = .ok (.iload_n 1, 1) := by decide +kernel
theorem dX8_at_12 : decode cX8_at 12 = .ok (.invokevirtual 68, 3) := by decide +kernel
theorem dX8_at_15 : decode cX8_at 15 = .ok (.iconst 1, 1) := by decide +kernel
theorem dX8_at_16 : decode cX8_at 16 = .ok (.isub, 1) := by decide +kernel
theorem dX8_at_17 : decode cX8_at 17 = .ok (.invokestatic 51, 3) := by decide +kernel
theorem dX8_at_20 : decode cX8_at 20 = .ok (.ifCond .eq 16, 3) := by decide +kernel
theorem dX8_at_23 : decode cX8_at 23 = .ok (.aload_n 0, 1) := by decide +kernel
theorem dX8_at_24 : decode cX8_at 24 = .ok (.getfield 7, 3) := by decide +kernel
theorem dX8_at_27 : decode cX8_at 27 = .ok (.iload_n 1, 1) := by decide +kernel
theorem dX8_at_28 : decode cX8_at 28 = .ok (.iload_n 2, 1) := by decide +kernel
theorem dX8_at_29 : decode cX8_at 29 = .ok (.invokestatic 81, 3) := by decide +kernel
theorem dX8_at_32 : decode cX8_at 32 = .ok (.iaload, 1) := by decide +kernel
theorem dX8_at_33 : decode cX8_at 33 = .ok (.goto 7, 3) := by decide +kernel
theorem dX8_at_36 : decode cX8_at 36 = .ok (.aload_n 0, 1) := by decide +kernel
theorem dX8_at_37 : decode cX8_at 37 = .ok (.invokevirtual 174, 3) := by decide +kernel
theorem dX8_at_40 : decode cX8_at 40 = .ok (.ireturn, 1) := by decide +kernel
theorem dX8_isImage_0 : decode cX8_isImage 0 = .ok (.iload_n 1, 1) := by decide +kernel
theorem dX8_isImage_1 : decode cX8_isImage 1 = .ok (.iconst 0, 1) := by decide +kernel
theorem dX8_isImage_2 : decode cX8_isImage 2 = .ok (.aload_n 0, 1) := by decide +kernel
theorem dX8_isImage_3 : decode cX8_isImage 3 = .ok (.getfield 7, 3) := by decide +kernel
theorem dX8_isImage_6 : decode cX8_isImage 6 = .ok (.sipush 170, 3) := by decide +kernel
theorem dX8_isImage_9 : decode cX8_isImage 9 = .ok (.iaload, 1) := by decide +kernel
theorem dX8_isImage_10 : decode cX8_isImage 10 = .ok (.iconst 1, 1) := by decide +kernel
theorem dX8_isImage_11 : decode cX8_isImage 11 = .ok (.isub, 1) := by decide +kernel
theorem dX8_isImage_12 : decode cX8_isImage 12 = .ok (.invokestatic 51, 3) := by decide +kernel
theorem dX8_isImage_15 : decode cX8_isImage 15 = .ok (.ireturn, 1) := by decide +kernel
theorem dX8_ofImage_0 : decode cX8_ofImage 0 = .ok (.sipush 171, 3) := by decide +kernel
theorem dX8_ofImage_3 : decode cX8_ofImage 3 = .ok (.sipush 131, 3) := by decide +kernel
theorem dX8_ofImage_6 : decode cX8_ofImage 6 = .ok (.iload_n 1, 1) := by decide +kernel
theorem dX8_ofImage_7 : decode cX8_ofImage 7 = .ok (.imul, 1) := by decide +kernel
theorem dX8_ofImage_8 : decode cX8_ofImage 8 = .ok (.iadd, 1) := by decide +kernel
theorem dX8_ofImage_9 : decode cX8_ofImage 9 = .ok (.istore_n 3, 1) := by decide +kernel
theorem dX8_ofImage_10 : decode cX8_ofImage 10 = .ok (.iconst 0, 1) := by decide +kernel
theorem dX8_ofImage_11 : decode cX8_ofImage 11 = .ok (.istore 4, 2) := by decide +kernel
theorem dX8_ofImage_13 : decode cX8_ofImage 13 = .ok (.iconst 0, 1) := by decide +kernel
theorem dX8_ofImage_14 : decode cX8_ofImage 14 = .ok (.istore 5, 2) := by decide +kernel
theorem dX8_ofImage_16 : decode cX8_ofImage 16 = .ok (.iconst 0, 1) := by decide +kernel
theorem dX8_ofImage_17 : decode cX8_ofImage 17 = .ok (.istore 6, 2) := by decide +kernel
theorem dX8_ofImage_19 : decode cX8_ofImage 19 = .ok (.iload 6, 2) := by decide +kernel
theorem dX8_ofImage_21 : decode cX8_ofImage 21 = .ok (.aload_n 0, 1) := by decide +kernel
theorem dX8_ofImage_22 : decode cX8_ofImage 22 = .ok (.getfield 7, 3) := by decide +kernel
theorem dX8_ofImage_25 : decode cX8_ofImage 25 = .ok (.iload_n 3, 1) := by decide +kernel
theorem dX8_ofImage_26 : decode cX8_ofImage 26 = .ok (.iaload, 1) := by decide +kernel
theorem dX8_ofImage_27 : decode cX8_ofImage 27 = .ok (.if_icmp .ge 84, 3) := by decide +kernel
theorem dX8_ofImage_30 : decode cX8_ofImage 30 = .ok (.iload 4, 2) := by decide +kernel
theorem dX8_ofImage_32 : decode cX8_ofImage 32 = .ok (.aload_n 0, 1) := by decide +kernel
theorem dX8_ofImage_33 : decode cX8_ofImage 33 = .ok (.getfield 7, 3) := by decide +kernel
theorem dX8_ofImage_36 : decode cX8_ofImage 36 = .ok (.iload_n 3, 1) := by decide +kernel
theorem dX8_ofImage_37 : decode cX8_ofImage 37 = .ok (.iconst 1, 1) := by decide +kernel
theorem dX8_ofImage_38 : decode cX8_ofImage 38 = .ok (.iadd, 1) := by decide +kernel
theorem dX8_ofImage_39 : decode cX8_ofImage 39 = .ok (.iload 6, 2) := by decide +kernel
theorem dX8_ofImage_41 : decode cX8_ofImage 41 = .ok (.iadd, 1) := by decide +kernel
theorem dX8_ofImage_42 : decode cX8_ofImage 42 = .ok (.iaload, 1) := by decide +kernel
theorem dX8_ofImage_43 : decode cX8_ofImage 43 = .ok (.iadd, 1) := by decide +kernel
theorem dX8_ofImage_44 : decode cX8_ofImage 44 = .ok (.istore 4, 2) := by decide +kernel
theorem dX8_ofImage_46 : decode cX8_ofImage 46 = .ok (.iconst 0, 1) := by decide +kernel
theorem dX8_ofImage_47 : decode cX8_ofImage 47 = .ok (.istore 7, 2) := by decide +kernel
theorem dX8_ofImage_49 : decode cX8_ofImage 49 = .ok (.iload 7, 2) := by decide +kernel
theorem dX8_ofImage_51 : decode cX8_ofImage 51 = .ok (.aload_n 0, 1) := by decide +kernel
theorem dX8_ofImage_52 : decode cX8_ofImage 52 = .ok (.getfield 7, 3) := by decide +kernel
theorem dX8_ofImage_55 : decode cX8_ofImage 55 = .ok (.iload_n 3, 1) := by decide +kernel
theorem dX8_ofImage_56 : decode cX8_ofImage 56 = .ok (.iconst 1, 1) := by decide +kernel
theorem dX8_ofImage_57 : decode cX8_ofImage 57 = .ok (.iadd, 1) := by decide +kernel
theorem dX8_ofImage_58 : decode cX8_ofImage 58 = .ok (.iload 6, 2) := by decide +kernel
theorem dX8_ofImage_60 : decode cX8_ofImage 60 = .ok (.iadd, 1) := by decide +kernel
theorem dX8_ofImage_61 : decode cX8_ofImage 61 = .ok (.iaload, 1) := by decide +kernel
theorem dX8_ofImage_62 : decode cX8_ofImage 62 = .ok (.if_icmp .ge 43, 3) := by decide +kernel
theorem dX8_ofImage_65 : decode cX8_ofImage 65 = .ok (.iload 5, 2) := by decide +kernel
theorem dX8_ofImage_67 : decode cX8_ofImage 67 = .ok (.aload_n 0, 1) := by decide +kernel
theorem dX8_ofImage_68 : decode cX8_ofImage 68 = .ok (.getfield 7, 3) := by decide +kernel
theorem dX8_ofImage_71 : decode cX8_ofImage 71 = .ok (.iload_n 3, 1) := by decide +kernel
theorem dX8_ofImage_72 : decode cX8_ofImage 72 = .ok (.bipush 11, 2) := by decide +kernel
theorem dX8_ofImage_74 : decode cX8_ofImage 74 = .ok (.iadd, 1) := by decide +kernel
theorem dX8_ofImage_75 : decode cX8_ofImage 75 = .ok (.bipush 12, 2) := by decide +kernel
theorem dX8_ofImage_77 : decode cX8_ofImage 77 = .ok (.iload 6, 2) := by decide +kernel
theorem dX8_ofImage_79 : decode cX8_ofImage 79 = .ok (.imul, 1) := by decide +kernel
theorem dX8_ofImage_80 : decode cX8_ofImage 80 = .ok (.iadd, 1) := by decide +kernel
theorem dX8_ofImage_81 : decode cX8_ofImage 81 = .ok (.iload 7, 2) := by decide +kernel
theorem dX8_ofImage_83 : decode cX8_ofImage 83 = .ok (.iadd, 1) := by decide +kernel
theorem dX8_ofImage_84 : decode cX8_ofImage 84 = .ok (.iaload, 1) := by decide +kernel
theorem dX8_ofImage_85 : decode cX8_ofImage 85 = .ok (.sipush 1000, 3) := by decide +kernel
theorem dX8_ofImage_88 : decode cX8_ofImage 88 = .ok (.if_icmp .lt 7, 3) := by decide +kernel
theorem dX8_ofImage_91 : decode cX8_ofImage 91 = .ok (.iconst 1, 1) := by decide +kernel
theorem dX8_ofImage_92 : decode cX8_ofImage 92 = .ok (.goto 4, 3) := by decide +kernel
theorem dX8_ofImage_95 : decode cX8_ofImage 95 = .ok (.iconst 0, 1) := by decide +kernel
theorem dX8_ofImage_96 : decode cX8_ofImage 96 = .ok (.iadd, 1) := by decide +kernel
theorem dX8_ofImage_97 : decode cX8_ofImage 97 = .ok (.istore 5, 2) := by decide +kernel
theorem dX8_ofImage_99 : decode cX8_ofImage 99 = .ok (.iinc 7 1, 3) := by decide +kernel
theorem dX8_ofImage_102 : decode cX8_ofImage 102 = .ok (.goto (-53), 3) := by decide +kernel
theorem dX8_ofImage_105 : decode cX8_ofImage 105 = .ok (.iinc 6 1, 3) := by decide +kernel
theorem dX8_ofImage_108 : decode cX8_ofImage 108 = .ok (.goto (-89), 3) := by decide +kernel
theorem dX8_ofImage_111 : decode cX8_ofImage 111 = .ok (.iload_n 2, 1) := by decide +kernel
theorem dX8_ofImage_112 : decode cX8_ofImage 112 = .ok (.ifCond .ne 12, 3) := by decide +kernel
theorem dX8_ofImage_115 : decode cX8_ofImage 115 = .ok (.aload_n 0, 1) := by decide +kernel
theorem dX8_ofImage_116 : decode cX8_ofImage 116 = .ok (.getfield 7, 3) := by decide +kernel
theorem dX8_ofImage_119 : decode cX8_ofImage 119 = .ok (.iload_n 3, 1) := by decide +kernel
theorem dX8_ofImage_120 : decode cX8_ofImage 120 = .ok (.iaload, 1) := by decide +kernel
theorem dX8_ofImage_121 : decode cX8_ofImage 121 = .ok (.goto 15, 3) := by decide +kernel
theorem dX8_ofImage_124 : decode cX8_ofImage 124 = .ok (.iload_n 2, 1) := by decide +kernel
theorem dX8_ofImage_125 : decode cX8_ofImage 125 = .ok (.iconst 1, 1) := by decide +kernel
theorem dX8_ofImage_126 : decode cX8_ofImage 126 = .ok (.if_icmp .ne 8, 3) := by decide +kernel
theorem dX8_ofImage_129 : decode cX8_ofImage 129 = .ok (.iload 4, 2) := by decide +kernel
theorem dX8_ofImage_131 : decode cX8_ofImage 131 = .ok (.goto 5, 3) := by decide +kernel
theorem dX8_ofImage_134 : decode cX8_ofImage 134 = .ok (.iload 5, 2) := by decide +kernel
theorem dX8_ofImage_136 : decode cX8_ofImage 136 = .ok (.ireturn, 1) := by decide +kernel
theorem dX8_image_0 : decode cX8_image 0 = .ok (.aload_n 0, 1) := by decide +kernel
theorem dX8_image_1 : decode cX8_image 1 = .ok (.iload_n 1, 1) := by decide +kernel
theorem dX8_image_2 : decode cX8_image 2 = .ok (.invokevirtual 193, 3) := by decide +kernel
theorem dX8_image_5 : decode cX8_image 5 = .ok (.ifCond .eq 21, 3) := by decide +kernel
theorem dX8_image_8 : decode cX8_image 8 = .ok (.iload_n 2, 1) := by decide +kernel
theorem dX8_image_9 : decode cX8_image 9 = .ok (.iconst 0, 1) := by decide +kernel
theorem dX8_image_10 : decode cX8_image 10 = .ok (.iconst 2, 1) := by decide +kernel
theorem dX8_image_11 : decode cX8_image 11 = .ok (.invokestatic 51, 3) := by decide +kernel
theorem dX8_image_14 : decode cX8_image 14 = .ok (.ifCond .eq 12, 3) := by decide +kernel
theorem dX8_image_17 : decode cX8_image 17 = .ok (.aload_n 0, 1) := by decide +kernel
theorem dX8_image_18 : decode cX8_image 18 = .ok (.iload_n 1, 1) := by decide +kernel
theorem dX8_image_19 : decode cX8_image 19 = .ok (.iload_n 2, 1) := by decide +kernel
theorem dX8_image_20 : decode cX8_image 20 = .ok (.invokevirtual 196, 3) := by decide +kernel
theorem dX8_image_23 : decode cX8_image 23 = .ok (.goto 7, 3) := by decide +kernel
theorem dX8_image_26 : decode cX8_image 26 = .ok (.aload_n 0, 1) := by decide +kernel
theorem dX8_image_27 : decode cX8_image 27 = .ok (.invokevirtual 174, 3) := by decide +kernel
theorem dX8_image_30 : decode cX8_image 30 = .ok (.ireturn, 1) := by decide +kernel
theorem dX8_imaged_0 : decode cX8_imaged 0 = .ok (.aload_n 0, 1) := by decide +kernel
theorem dX8_imaged_1 : decode cX8_imaged 1 = .ok (.iload_n 1, 1) := by decide +kernel
theorem dX8_imaged_2 : decode cX8_imaged 2 = .ok (.invokevirtual 193, 3) := by decide +kernel
theorem dX8_imaged_5 : decode cX8_imaged 5 = .ok (.ifCond .eq 31, 3) := by decide +kernel
theorem dX8_imaged_8 : decode cX8_imaged 8 = .ok (.iload_n 3, 1) := by decide +kernel
theorem dX8_imaged_9 : decode cX8_imaged 9 = .ok (.ifCond .lt 27, 3) := by decide +kernel
theorem dX8_imaged_12 : decode cX8_imaged 12 = .ok (.iload_n 2, 1) := by decide +kernel
theorem dX8_imaged_13 : decode cX8_imaged 13 = .ok (.iconst 0, 1) := by decide +kernel
theorem dX8_imaged_14 : decode cX8_imaged 14 = .ok (.aload_n 0, 1) := by decide +kernel
theorem dX8_imaged_15 : decode cX8_imaged 15 = .ok (.getfield 7, 3) := by decide +kernel
theorem dX8_imaged_18 : decode cX8_imaged 18 = .ok (.sipush 171, 3) := by decide +kernel
theorem dX8_imaged_21 : decode cX8_imaged 21 = .ok (.sipush 131, 3) := by decide +kernel
theorem dX8_imaged_24 : decode cX8_imaged 24 = .ok (.iload_n 1, 1) := by decide +kernel
theorem dX8_imaged_25 : decode cX8_imaged 25 = .ok (.imul, 1) := by decide +kernel
theorem dX8_imaged_26 : decode cX8_imaged 26 = .ok (.iadd, 1) := by decide +kernel
theorem dX8_imaged_27 : decode cX8_imaged 27 = .ok (.iaload, 1) := by decide +kernel
theorem dX8_imaged_28 : decode cX8_imaged 28 = .ok (.iconst 1, 1) := by decide +kernel
theorem dX8_imaged_29 : decode cX8_imaged 29 = .ok (.isub, 1) := by decide +kernel
theorem dX8_imaged_30 : decode cX8_imaged 30 = .ok (.invokestatic 51, 3) := by decide +kernel
theorem dX8_imaged_33 : decode cX8_imaged 33 = .ok (.ifCond .ne 8, 3) := by decide +kernel
theorem dX8_imaged_36 : decode cX8_imaged 36 = .ok (.aload_n 0, 1) := by decide +kernel
theorem dX8_imaged_37 : decode cX8_imaged 37 = .ok (.invokevirtual 174, 3) := by decide +kernel
theorem dX8_imaged_40 : decode cX8_imaged 40 = .ok (.ireturn, 1) := by decide +kernel
theorem dX8_imaged_41 : decode cX8_imaged 41 = .ok (.sipush 171, 3) := by decide +kernel
theorem dX8_imaged_44 : decode cX8_imaged 44 = .ok (.sipush 131, 3) := by decide +kernel
theorem dX8_imaged_47 : decode cX8_imaged 47 = .ok (.iload_n 1, 1) := by decide +kernel
theorem dX8_imaged_48 : decode cX8_imaged 48 = .ok (.imul, 1) := by decide +kernel
theorem dX8_imaged_49 : decode cX8_imaged 49 = .ok (.iadd, 1) := by decide +kernel
theorem dX8_imaged_50 : decode cX8_imaged 50 = .ok (.istore 4, 2) := by decide +kernel
theorem dX8_imaged_52 : decode cX8_imaged 52 = .ok (.iload_n 3, 1) := by decide +kernel
theorem dX8_imaged_53 : decode cX8_imaged 53 = .ok (.aload_n 0, 1) := by decide +kernel
theorem dX8_imaged_54 : decode cX8_imaged 54 = .ok (.getfield 7, 3) := by decide +kernel
theorem dX8_imaged_57 : decode cX8_imaged 57 = .ok (.iload 4, 2) := by decide +kernel
theorem dX8_imaged_59 : decode cX8_imaged 59 = .ok (.iconst 1, 1) := by decide +kernel
theorem dX8_imaged_60 : decode cX8_imaged 60 = .ok (.iadd, 1) := by decide +kernel
theorem dX8_imaged_61 : decode cX8_imaged 61 = .ok (.iload_n 2, 1) := by decide +kernel
theorem dX8_imaged_62 : decode cX8_imaged 62 = .ok (.iadd, 1) := by decide +kernel
theorem dX8_imaged_63 : decode cX8_imaged 63 = .ok (.iaload, 1) := by decide +kernel
theorem dX8_imaged_64 : decode cX8_imaged 64 = .ok (.if_icmp .ge 23, 3) := by decide +kernel
theorem dX8_imaged_67 : decode cX8_imaged 67 = .ok (.aload_n 0, 1) := by decide +kernel
theorem dX8_imaged_68 : decode cX8_imaged 68 = .ok (.getfield 7, 3) := by decide +kernel
theorem dX8_imaged_71 : decode cX8_imaged 71 = .ok (.iload 4, 2) := by decide +kernel
theorem dX8_imaged_73 : decode cX8_imaged 73 = .ok (.bipush 11, 2) := by decide +kernel
theorem dX8_imaged_75 : decode cX8_imaged 75 = .ok (.iadd, 1) := by decide +kernel
theorem dX8_imaged_76 : decode cX8_imaged 76 = .ok (.bipush 12, 2) := by decide +kernel
theorem dX8_imaged_78 : decode cX8_imaged 78 = .ok (.iload_n 2, 1) := by decide +kernel
theorem dX8_imaged_79 : decode cX8_imaged 79 = .ok (.imul, 1) := by decide +kernel
theorem dX8_imaged_80 : decode cX8_imaged 80 = .ok (.iadd, 1) := by decide +kernel
theorem dX8_imaged_81 : decode cX8_imaged 81 = .ok (.iload_n 3, 1) := by decide +kernel
theorem dX8_imaged_82 : decode cX8_imaged 82 = .ok (.iadd, 1) := by decide +kernel
theorem dX8_imaged_83 : decode cX8_imaged 83 = .ok (.iaload, 1) := by decide +kernel
theorem dX8_imaged_84 : decode cX8_imaged 84 = .ok (.goto 5, 3) := by decide +kernel
theorem dX8_imaged_87 : decode cX8_imaged 87 = .ok (.bipush (-5), 2) := by decide +kernel
theorem dX8_imaged_89 : decode cX8_imaged 89 = .ok (.ireturn, 1) := by decide +kernel
theorem dX8_like_0 : decode cX8_like 0 = .ok (.aload_n 0, 1) := by decide +kernel
theorem dX8_like_1 : decode cX8_like 1 = .ok (.iload_n 1, 1) := by decide +kernel
theorem dX8_like_2 : decode cX8_like 2 = .ok (.invokevirtual 187, 3) := by decide +kernel
theorem dX8_like_5 : decode cX8_like 5 = .ok (.ifCond .ne 8, 3) := by decide +kernel
theorem dX8_like_8 : decode cX8_like 8 = .ok (.aload_n 0, 1) := by decide +kernel
theorem dX8_like_9 : decode cX8_like 9 = .ok (.invokevirtual 174, 3) := by decide +kernel
theorem dX8_like_12 : decode cX8_like 12 = .ok (.ireturn, 1) := by decide +kernel
theorem dX8_like_13 : decode cX8_like 13 = .ok (.aload_n 0, 1) := by decide +kernel
theorem dX8_like_14 : decode cX8_like 14 = .ok (.iload_n 1, 1) := by decide +kernel
theorem dX8_like_15 : decode cX8_like 15 = .ok (.invokevirtual 113, 3) := by decide +kernel
theorem dX8_like_18 : decode cX8_like 18 = .ok (.aload_n 0, 1) := by decide +kernel
theorem dX8_like_19 : decode cX8_like 19 = .ok (.invokevirtual 117, 3) := by decide +kernel
theorem dX8_like_22 : decode cX8_like 22 = .ok (.ifCond .ne 16, 3) := by decide +kernel
theorem dX8_like_25 : decode cX8_like 25 = .ok (.aload_n 0, 1) := by decide +kernel
theorem dX8_like_26 : decode cX8_like 26 = .ok (.getfield 19, 3) := by decide +kernel
theorem dX8_like_29 : decode cX8_like 29 = .ok (.iconst 1, 1) := by decide +kernel
theorem dX8_like_30 : decode cX8_like 30 = .ok (.dup2, 1) := by decide +kernel
theorem dX8_like_31 : decode cX8_like 31 = .ok (.iaload, 1) := by decide +kernel
theorem dX8_like_32 : decode cX8_like 32 = .ok (.iconst 1, 1) := by decide +kernel
theorem dX8_like_33 : decode cX8_like 33 = .ok (.iadd, 1) := by decide +kernel
theorem dX8_like_34 : decode cX8_like 34 = .ok (.iastore, 1) := by decide +kernel
theorem dX8_like_35 : decode cX8_like 35 = .ok (.bipush (-3), 2) := by decide +kernel
theorem dX8_like_37 : decode cX8_like 37 = .ok (.ireturn, 1) := by decide +kernel
theorem dX8_like_38 : decode cX8_like 38 = .ok (.aload_n 0, 1) := by decide +kernel
theorem dX8_like_39 : decode cX8_like 39 = .ok (.invokevirtual 121, 3) := by decide +kernel
theorem dX8_like_42 : decode cX8_like 42 = .ok (.aload_n 0, 1) := by decide +kernel
theorem dX8_like_43 : decode cX8_like 43 = .ok (.invokevirtual 124, 3) := by decide +kernel
theorem dX8_like_46 : decode cX8_like 46 = .ok (.ireturn, 1) := by decide +kernel
theorem dX8_livePieces_0 : decode cX8_livePieces 0 = .ok (.iconst 0, 1) := by decide +kernel
theorem dX8_livePieces_1 : decode cX8_livePieces 1 = .ok (.istore_n 1, 1) := by decide +kernel
theorem dX8_livePieces_2 : decode cX8_livePieces 2 = .ok (.iconst 0, 1) := by decide +kernel
theorem dX8_livePieces_3 : decode cX8_livePieces 3 = .ok (.istore_n 2, 1) := by decide +kernel
theorem dX8_livePieces_4 : decode cX8_livePieces 4 = .ok (.iload_n 2, 1) := by decide +kernel
theorem dX8_livePieces_5 : decode cX8_livePieces 5 = .ok (.aload_n 0, 1) := by decide +kernel
theorem dX8_livePieces_6 : decode cX8_livePieces 6 = .ok (.getfield 7, 3) := by decide +kernel
theorem dX8_livePieces_9 : decode cX8_livePieces 9 = .ok (.iconst 0, 1) := by decide +kernel
theorem dX8_livePieces_10 : decode cX8_livePieces 10 = .ok (.iaload, 1) := by decide +kernel
theorem dX8_livePieces_11 : decode cX8_livePieces 11 = .ok (.if_icmp .ge 25, 3) := by decide +kernel
theorem dX8_livePieces_14 : decode cX8_livePieces 14 = .ok (.iload_n 1, 1) := by decide +kernel
theorem dX8_livePieces_15 : decode cX8_livePieces 15 = .ok (.aload_n 0, 1) := by decide +kernel
theorem dX8_livePieces_16 : decode cX8_livePieces 16 = .ok (.iload_n 2, 1) := by decide +kernel
theorem dX8_livePieces_17 : decode cX8_livePieces 17 = .ok (.invokevirtual 61, 3) := by decide +kernel
theorem dX8_livePieces_20 : decode cX8_livePieces 20 = .ok (.ifCond .eq 7, 3) := by decide +kernel
theorem dX8_livePieces_23 : decode cX8_livePieces 23 = .ok (.iconst 1, 1) := by decide +kernel
theorem dX8_livePieces_24 : decode cX8_livePieces 24 = .ok (.goto 4, 3) := by decide +kernel
theorem dX8_livePieces_27 : decode cX8_livePieces 27 = .ok (.iconst 0, 1) := by decide +kernel
theorem dX8_livePieces_28 : decode cX8_livePieces 28 = .ok (.iadd, 1) := by decide +kernel
theorem dX8_livePieces_29 : decode cX8_livePieces 29 = .ok (.istore_n 1, 1) := by decide +kernel
theorem dX8_livePieces_30 : decode cX8_livePieces 30 = .ok (.iinc 2 1, 3) := by decide +kernel
theorem dX8_livePieces_33 : decode cX8_livePieces 33 = .ok (.goto (-29), 3) := by decide +kernel
theorem dX8_livePieces_36 : decode cX8_livePieces 36 = .ok (.iload_n 1, 1) := by decide +kernel
theorem dX8_livePieces_37 : decode cX8_livePieces 37 = .ok (.ireturn, 1) := by decide +kernel
theorem dX8_countOf_0 : decode cX8_countOf 0 = .ok (.iload_n 1, 1) := by decide +kernel
theorem dX8_countOf_1 : decode cX8_countOf 1 = .ok (.tableswitch 102 0 9 #[55, 62, 71, 76, 102, 102, 102, 85, 92, 97], 55) := by decide +kernel
theorem dX8_countOf_56 : decode cX8_countOf 56 = .ok (.aload_n 0, 1) := by decide +kernel
theorem dX8_countOf_57 : decode cX8_countOf 57 = .ok (.getfield 7, 3) := by decide +kernel
theorem dX8_countOf_60 : decode cX8_countOf 60 = .ok (.iconst 0, 1) := by decide +kernel
theorem dX8_countOf_61 : decode cX8_countOf 61 = .ok (.iaload, 1) := by decide +kernel
theorem dX8_countOf_62 : decode cX8_countOf 62 = .ok (.ireturn, 1) := by decide +kernel
theorem dX8_countOf_63 : decode cX8_countOf 63 = .ok (.aload_n 0, 1) := by decide +kernel
theorem dX8_countOf_64 : decode cX8_countOf 64 = .ok (.getfield 7, 3) := by decide +kernel
theorem dX8_countOf_67 : decode cX8_countOf 67 = .ok (.sipush 170, 3) := by decide +kernel
theorem dX8_countOf_70 : decode cX8_countOf 70 = .ok (.iaload, 1) := by decide +kernel
theorem dX8_countOf_71 : decode cX8_countOf 71 = .ok (.ireturn, 1) := by decide +kernel
theorem dX8_countOf_72 : decode cX8_countOf 72 = .ok (.aload_n 0, 1) := by decide +kernel
theorem dX8_countOf_73 : decode cX8_countOf 73 = .ok (.invokevirtual 199, 3) := by decide +kernel
theorem dX8_countOf_76 : decode cX8_countOf 76 = .ok (.ireturn, 1) := by decide +kernel
theorem dX8_countOf_77 : decode cX8_countOf 77 = .ok (.aload_n 0, 1) := by decide +kernel
theorem dX8_countOf_78 : decode cX8_countOf 78 = .ok (.getfield 7, 3) := by decide +kernel
theorem dX8_countOf_81 : decode cX8_countOf 81 = .ok (.sipush 169, 3) := by decide +kernel
theorem dX8_countOf_84 : decode cX8_countOf 84 = .ok (.iaload, 1) := by decide +kernel
theorem dX8_countOf_85 : decode cX8_countOf 85 = .ok (.ireturn, 1) := by decide +kernel
theorem dX8_countOf_86 : decode cX8_countOf 86 = .ok (.aload_n 0, 1) := by decide +kernel
theorem dX8_countOf_87 : decode cX8_countOf 87 = .ok (.getfield 22, 3) := by decide +kernel
theorem dX8_countOf_90 : decode cX8_countOf 90 = .ok (.iconst 0, 1) := by decide +kernel
theorem dX8_countOf_91 : decode cX8_countOf 91 = .ok (.iaload, 1) := by decide +kernel
theorem dX8_countOf_92 : decode cX8_countOf 92 = .ok (.ireturn, 1) := by decide +kernel
theorem dX8_countOf_93 : decode cX8_countOf 93 = .ok (.aload_n 0, 1) := by decide +kernel
theorem dX8_countOf_94 : decode cX8_countOf 94 = .ok (.getfield 202, 3) := by decide +kernel
theorem dX8_countOf_97 : decode cX8_countOf 97 = .ok (.ireturn, 1) := by decide +kernel
theorem dX8_countOf_98 : decode cX8_countOf 98 = .ok (.aload_n 0, 1) := by decide +kernel
theorem dX8_countOf_99 : decode cX8_countOf 99 = .ok (.getfield 43, 3) := by decide +kernel
theorem dX8_countOf_102 : decode cX8_countOf 102 = .ok (.ireturn, 1) := by decide +kernel
theorem dX8_countOf_103 : decode cX8_countOf 103 = .ok (.aload_n 0, 1) := by decide +kernel
theorem dX8_countOf_104 : decode cX8_countOf 104 = .ok (.getfield 19, 3) := by decide +kernel
theorem dX8_countOf_107 : decode cX8_countOf 107 = .ok (.iload_n 1, 1) := by decide +kernel
theorem dX8_countOf_108 : decode cX8_countOf 108 = .ok (.iconst 4, 1) := by decide +kernel
theorem dX8_countOf_109 : decode cX8_countOf 109 = .ok (.isub, 1) := by decide +kernel
theorem dX8_countOf_110 : decode cX8_countOf 110 = .ok (.iaload, 1) := by decide +kernel
theorem dX8_countOf_111 : decode cX8_countOf 111 = .ok (.ireturn, 1) := by decide +kernel
theorem dX8_count_0 : decode cX8_count 0 = .ok (.iload_n 1, 1) := by decide +kernel
theorem dX8_count_1 : decode cX8_count 1 = .ok (.iconst 0, 1) := by decide +kernel
theorem dX8_count_2 : decode cX8_count 2 = .ok (.bipush 9, 2) := by decide +kernel
theorem dX8_count_4 : decode cX8_count 4 = .ok (.invokestatic 51, 3) := by decide +kernel
theorem dX8_count_7 : decode cX8_count 7 = .ok (.ifCond .eq 11, 3) := by decide +kernel
theorem dX8_count_10 : decode cX8_count 10 = .ok (.aload_n 0, 1) := by decide +kernel
theorem dX8_count_11 : decode cX8_count 11 = .ok (.iload_n 1, 1) := by decide +kernel
theorem dX8_count_12 : decode cX8_count 12 = .ok (.invokevirtual 205, 3) := by decide +kernel
theorem dX8_count_15 : decode cX8_count 15 = .ok (.goto 7, 3) := by decide +kernel
theorem dX8_count_18 : decode cX8_count 18 = .ok (.aload_n 0, 1) := by decide +kernel
theorem dX8_count_19 : decode cX8_count 19 = .ok (.invokevirtual 174, 3) := by decide +kernel
theorem dX8_count_22 : decode cX8_count 22 = .ok (.ireturn, 1) := by decide +kernel
theorem dX8_undefined_0 : decode cX8_undefined 0 = .ok (.iload_n 1, 1) := by decide +kernel
theorem dX8_undefined_1 : decode cX8_undefined 1 = .ok (.iconst 1, 1) := by decide +kernel
theorem dX8_undefined_2 : decode cX8_undefined 2 = .ok (.bipush 9, 2) := by decide +kernel
theorem dX8_undefined_4 : decode cX8_undefined 4 = .ok (.invokestatic 51, 3) := by decide +kernel
theorem dX8_undefined_7 : decode cX8_undefined 7 = .ok (.ifCond .eq 12, 3) := by decide +kernel
theorem dX8_undefined_10 : decode cX8_undefined 10 = .ok (.aload_n 0, 1) := by decide +kernel
theorem dX8_undefined_11 : decode cX8_undefined 11 = .ok (.getfield 22, 3) := by decide +kernel
theorem dX8_undefined_14 : decode cX8_undefined 14 = .ok (.iload_n 1, 1) := by decide +kernel
theorem dX8_undefined_15 : decode cX8_undefined 15 = .ok (.iaload, 1) := by decide +kernel
theorem dX8_undefined_16 : decode cX8_undefined 16 = .ok (.goto 7, 3) := by decide +kernel
theorem dX8_undefined_19 : decode cX8_undefined 19 = .ok (.aload_n 0, 1) := by decide +kernel
theorem dX8_undefined_20 : decode cX8_undefined 20 = .ok (.invokevirtual 174, 3) := by decide +kernel
theorem dX8_undefined_23 : decode cX8_undefined 23 = .ok (.ireturn, 1) := by decide +kernel
theorem dX8_type_0 : decode cX8_type 0 = .ok (.iload_n 1, 1) := by decide +kernel
theorem dX8_type_1 : decode cX8_type 1 = .ok (.iconst 0, 1) := by decide +kernel
theorem dX8_type_2 : decode cX8_type 2 = .ok (.bipush 127, 2) := by decide +kernel
theorem dX8_type_4 : decode cX8_type 4 = .ok (.invokestatic 51, 3) := by decide +kernel
theorem dX8_type_7 : decode cX8_type 7 = .ok (.ifCond .ne 8, 3) := by decide +kernel
theorem dX8_type_10 : decode cX8_type 10 = .ok (.aload_n 0, 1) := by decide +kernel
theorem dX8_type_11 : decode cX8_type 11 = .ok (.invokevirtual 174, 3) := by decide +kernel
theorem dX8_type_14 : decode cX8_type 14 = .ok (.ireturn, 1) := by decide +kernel
theorem dX8_type_15 : decode cX8_type 15 = .ok (.aload_n 0, 1) := by decide +kernel
theorem dX8_type_16 : decode cX8_type 16 = .ok (.getfield 202, 3) := by decide +kernel
theorem dX8_type_19 : decode cX8_type 19 = .ok (.bipush 120, 2) := by decide +kernel
theorem dX8_type_21 : decode cX8_type 21 = .ok (.if_icmp .ne 16, 3) := by decide +kernel
theorem dX8_type_24 : decode cX8_type 24 = .ok (.aload_n 0, 1) := by decide +kernel
theorem dX8_type_25 : decode cX8_type 25 = .ok (.getfield 19, 3) := by decide +kernel
theorem dX8_type_28 : decode cX8_type 28 = .ok (.iconst 2, 1) := by decide +kernel
theorem dX8_type_29 : decode cX8_type 29 = .ok (.dup2, 1) := by decide +kernel
theorem dX8_type_30 : decode cX8_type 30 = .ok (.iaload, 1) := by decide +kernel
theorem dX8_type_31 : decode cX8_type 31 = .ok (.iconst 1, 1) := by decide +kernel
theorem dX8_type_32 : decode cX8_type 32 = .ok (.iadd, 1) := by decide +kernel
theorem dX8_type_33 : decode cX8_type 33 = .ok (.iastore, 1) := by decide +kernel
theorem dX8_type_34 : decode cX8_type 34 = .ok (.bipush (-4), 2) := by decide +kernel
theorem dX8_type_36 : decode cX8_type 36 = .ok (.ireturn, 1) := by decide +kernel
theorem dX8_type_37 : decode cX8_type 37 = .ok (.aload_n 0, 1) := by decide +kernel
theorem dX8_type_38 : decode cX8_type 38 = .ok (.getfield 25, 3) := by decide +kernel
theorem dX8_type_41 : decode cX8_type 41 = .ok (.aload_n 0, 1) := by decide +kernel
theorem dX8_type_42 : decode cX8_type 42 = .ok (.getfield 202, 3) := by decide +kernel
theorem dX8_type_45 : decode cX8_type 45 = .ok (.iload_n 1, 1) := by decide +kernel
theorem dX8_type_46 : decode cX8_type 46 = .ok (.iastore, 1) := by decide +kernel
theorem dX8_type_47 : decode cX8_type 47 = .ok (.aload_n 0, 1) := by decide +kernel
theorem dX8_type_48 : decode cX8_type 48 = .ok (.dup, 1) := by decide +kernel
theorem dX8_type_49 : decode cX8_type 49 = .ok (.getfield 202, 3) := by decide +kernel
theorem dX8_type_52 : decode cX8_type 52 = .ok (.iconst 1, 1) := by decide +kernel
theorem dX8_type_53 : decode cX8_type 53 = .ok (.iadd, 1) := by decide +kernel
theorem dX8_type_54 : decode cX8_type 54 = .ok (.putfield 202, 3) := by decide +kernel
theorem dX8_type_57 : decode cX8_type 57 = .ok (.aload_n 0, 1) := by decide +kernel
theorem dX8_type_58 : decode cX8_type 58 = .ok (.getfield 202, 3) := by decide +kernel
theorem dX8_type_61 : decode cX8_type 61 = .ok (.ireturn, 1) := by decide +kernel
theorem dX8_clear_0 : decode cX8_clear 0 = .ok (.aload_n 0, 1) := by decide +kernel
theorem dX8_clear_1 : decode cX8_clear 1 = .ok (.getfield 202, 3) := by decide +kernel
theorem dX8_clear_4 : decode cX8_clear 4 = .ok (.istore_n 1, 1) := by decide +kernel
theorem dX8_clear_5 : decode cX8_clear 5 = .ok (.aload_n 0, 1) := by decide +kernel
theorem dX8_clear_6 : decode cX8_clear 6 = .ok (.iconst 0, 1) := by decide +kernel
theorem dX8_clear_7 : decode cX8_clear 7 = .ok (.putfield 202, 3) := by decide +kernel
theorem dX8_clear_10 : decode cX8_clear 10 = .ok (.iload_n 1, 1) := by decide +kernel
theorem dX8_clear_11 : decode cX8_clear 11 = .ok (.ireturn, 1) := by decide +kernel
theorem dX8_isAt_0 : decode cX8_isAt 0 = .ok (.aload_n 0, 1) := by decide +kernel
theorem dX8_isAt_1 : decode cX8_isAt 1 = .ok (.getfield 208, 3) := by decide +kernel
theorem dX8_isAt_4 : decode cX8_isAt 4 = .ok (.aload_n 0, 1) := by decide +kernel
theorem dX8_isAt_5 : decode cX8_isAt 5 = .ok (.getfield 202, 3) := by decide +kernel
theorem dX8_isAt_8 : decode cX8_isAt 8 = .ok (.if_icmp .ge 24, 3) := by decide +kernel
theorem dX8_isAt_11 : decode cX8_isAt 11 = .ok (.aload_n 0, 1) := by decide +kernel
theorem dX8_isAt_12 : decode cX8_isAt 12 = .ok (.getfield 25, 3) := by decide +kernel
theorem dX8_isAt_15 : decode cX8_isAt 15 = .ok (.aload_n 0, 1) := by decide +kernel
theorem dX8_isAt_16 : decode cX8_isAt 16 = .ok (.getfield 208, 3) := by decide +kernel
theorem dX8_isAt_19 : decode cX8_isAt 19 = .ok (.iaload, 1) := by decide +kernel
theorem dX8_isAt_20 : decode cX8_isAt 20 = .ok (.iload_n 1, 1) := by decide +kernel
theorem dX8_isAt_21 : decode cX8_isAt 21 = .ok (.iload_n 2, 1) := by decide +kernel
theorem dX8_isAt_22 : decode cX8_isAt 22 = .ok (.invokestatic 51, 3) := by decide +kernel
theorem dX8_isAt_25 : decode cX8_isAt 25 = .ok (.ifCond .eq 7, 3) := by decide +kernel
theorem dX8_isAt_28 : decode cX8_isAt 28 = .ok (.iconst 1, 1) := by decide +kernel
theorem dX8_isAt_29 : decode cX8_isAt 29 = .ok (.goto 4, 3) := by decide +kernel
theorem dX8_isAt_32 : decode cX8_isAt 32 = .ok (.iconst 0, 1) := by decide +kernel
theorem dX8_isAt_33 : decode cX8_isAt 33 = .ok (.ireturn, 1) := by decide +kernel
theorem dX8_blanks_0 : decode cX8_blanks 0 = .ok (.aload_n 0, 1) := by decide +kernel
theorem dX8_blanks_1 : decode cX8_blanks 1 = .ok (.bipush 32, 2) := by decide +kernel
theorem dX8_blanks_3 : decode cX8_blanks 3 = .ok (.bipush 32, 2) := by decide +kernel
theorem dX8_blanks_5 : decode cX8_blanks 5 = .ok (.invokevirtual 211, 3) := by decide +kernel
theorem dX8_blanks_8 : decode cX8_blanks 8 = .ok (.ifCond .eq 16, 3) := by decide +kernel
theorem dX8_blanks_11 : decode cX8_blanks 11 = .ok (.aload_n 0, 1) := by decide +kernel
theorem dX8_blanks_12 : decode cX8_blanks 12 = .ok (.dup, 1) := by decide +kernel
theorem dX8_blanks_13 : decode cX8_blanks 13 = .ok (.getfield 208, 3) := by decide +kernel
theorem dX8_blanks_16 : decode cX8_blanks 16 = .ok (.iconst 1, 1) := by decide +kernel
theorem dX8_blanks_17 : decode cX8_blanks 17 = .ok (.iadd, 1) := by decide +kernel
theorem dX8_blanks_18 : decode cX8_blanks 18 = .ok (.putfield 208, 3) := by decide +kernel
theorem dX8_blanks_21 : decode cX8_blanks 21 = .ok (.goto (-21), 3) := by decide +kernel
theorem dX8_blanks_24 : decode cX8_blanks 24 = .ok (.return_, 1) := by decide +kernel
theorem dX8_fails_0 : decode cX8_fails 0 = .ok (.aload_n 0, 1) := by decide +kernel
theorem dX8_fails_1 : decode cX8_fails 1 = .ok (.iload_n 1, 1) := by decide +kernel
theorem dX8_fails_2 : decode cX8_fails 2 = .ok (.putfield 214, 3) := by decide +kernel
theorem dX8_fails_5 : decode cX8_fails 5 = .ok (.iconst 0, 1) := by decide +kernel
theorem dX8_fails_6 : decode cX8_fails 6 = .ok (.ireturn, 1) := by decide +kernel
theorem dX8_manyOf_0 : decode cX8_manyOf 0 = .ok (.iload_n 0, 1) := by decide +kernel
theorem dX8_manyOf_1 : decode cX8_manyOf 1 = .ok (.tableswitch 121 98 122 #[119, 117, 119, 115, 121, 121, 121, 121, 117, 121, 119, 117, 121, 121, 121, 121, 121, 117, 121, 121, 117, 119, 121, 121, 115], 115) := by decide +kernel
theorem dX8_manyOf_116 : decode cX8_manyOf 116 = .ok (.iconst 1, 1) := by decide +kernel
theorem dX8_manyOf_117 : decode cX8_manyOf 117 = .ok (.ireturn, 1) := by decide +kernel
theorem dX8_manyOf_118 : decode cX8_manyOf 118 = .ok (.iconst 2, 1) := by decide +kernel
theorem dX8_manyOf_119 : decode cX8_manyOf 119 = .ok (.ireturn, 1) := by decide +kernel
theorem dX8_manyOf_120 : decode cX8_manyOf 120 = .ok (.iconst 3, 1) := by decide +kernel
theorem dX8_manyOf_121 : decode cX8_manyOf 121 = .ok (.ireturn, 1) := by decide +kernel
theorem dX8_manyOf_122 : decode cX8_manyOf 122 = .ok (.iconst (-1), 1) := by decide +kernel
theorem dX8_manyOf_123 : decode cX8_manyOf 123 = .ok (.ireturn, 1) := by decide +kernel
theorem dX8_takesNumber_0 : decode cX8_takesNumber 0 = .ok (.aload_n 0, 1) := by decide +kernel
theorem dX8_takesNumber_1 : decode cX8_takesNumber 1 = .ok (.invokevirtual 217, 3) := by decide +kernel
theorem dX8_takesNumber_4 : decode cX8_takesNumber 4 = .ok (.iload_n 2, 1) := by decide +kernel
theorem dX8_takesNumber_5 : decode cX8_takesNumber 5 = .ok (.ifCond .eq 18, 3) := by decide +kernel
theorem dX8_takesNumber_8 : decode cX8_takesNumber 8 = .ok (.aload_n 0, 1) := by decide +kernel
theorem dX8_takesNumber_9 : decode cX8_takesNumber 9 = .ok (.bipush 45, 2) := by decide +kernel
theorem dX8_takesNumber_11 : decode cX8_takesNumber 11 = .ok (.bipush 45, 2) := by decide +kernel
theorem dX8_takesNumber_13 : decode cX8_takesNumber 13 = .ok (.invokevirtual 211, 3) := by decide +kernel
theorem dX8_takesNumber_16 : decode cX8_takesNumber 16 = .ok (.ifCond .eq 7, 3) := by decide +kernel
theorem dX8_takesNumber_19 : decode cX8_takesNumber 19 = .ok (.iconst 1, 1) := by decide +kernel
theorem dX8_takesNumber_20 : decode cX8_takesNumber 20 = .ok (.goto 4, 3) := by decide +kernel
theorem dX8_takesNumber_23 : decode cX8_takesNumber 23 = .ok (.iconst 0, 1) := by decide +kernel
theorem dX8_takesNumber_24 : decode cX8_takesNumber 24 = .ok (.istore_n 3, 1) := by decide +kernel
theorem dX8_takesNumber_25 : decode cX8_takesNumber 25 = .ok (.aload_n 0, 1) := by decide +kernel
theorem dX8_takesNumber_26 : decode cX8_takesNumber 26 = .ok (.dup, 1) := by decide +kernel
theorem dX8_takesNumber_27 : decode cX8_takesNumber 27 = .ok (.getfield 208, 3) := by decide +kernel
theorem dX8_takesNumber_30 : decode cX8_takesNumber 30 = .ok (.iload_n 3, 1) := by decide +kernel
theorem dX8_takesNumber_31 : decode cX8_takesNumber 31 = .ok (.ifCond .eq 7, 3) := by decide +kernel
theorem dX8_takesNumber_34 : decode cX8_takesNumber 34 = .ok (.iconst 1, 1) := by decide +kernel
theorem dX8_takesNumber_35 : decode cX8_takesNumber 35 = .ok (.goto 4, 3) := by decide +kernel
theorem dX8_takesNumber_38 : decode cX8_takesNumber 38 = .ok (.iconst 0, 1) := by decide +kernel
theorem dX8_takesNumber_39 : decode cX8_takesNumber 39 = .ok (.iadd, 1) := by decide +kernel
theorem dX8_takesNumber_40 : decode cX8_takesNumber 40 = .ok (.putfield 208, 3) := by decide +kernel
theorem dX8_takesNumber_43 : decode cX8_takesNumber 43 = .ok (.aload_n 0, 1) := by decide +kernel
theorem dX8_takesNumber_44 : decode cX8_takesNumber 44 = .ok (.getfield 208, 3) := by decide +kernel
theorem dX8_takesNumber_47 : decode cX8_takesNumber 47 = .ok (.istore 4, 2) := by decide +kernel
theorem dX8_takesNumber_49 : decode cX8_takesNumber 49 = .ok (.iconst 0, 1) := by decide +kernel
theorem dX8_takesNumber_50 : decode cX8_takesNumber 50 = .ok (.istore 5, 2) := by decide +kernel
theorem dX8_takesNumber_52 : decode cX8_takesNumber 52 = .ok (.aload_n 0, 1) := by decide +kernel
theorem dX8_takesNumber_53 : decode cX8_takesNumber 53 = .ok (.bipush 48, 2) := by decide +kernel
theorem dX8_takesNumber_55 : decode cX8_takesNumber 55 = .ok (.bipush 57, 2) := by decide +kernel
theorem dX8_takesNumber_57 : decode cX8_takesNumber 57 = .ok (.invokevirtual 211, 3) := by decide +kernel
theorem dX8_takesNumber_60 : decode cX8_takesNumber 60 = .ok (.ifCond .eq 56, 3) := by decide +kernel
theorem dX8_takesNumber_63 : decode cX8_takesNumber 63 = .ok (.aload_n 0, 1) := by decide +kernel
theorem dX8_takesNumber_64 : decode cX8_takesNumber 64 = .ok (.getfield 208, 3) := by decide +kernel
theorem dX8_takesNumber_67 : decode cX8_takesNumber 67 = .ok (.iload 4, 2) := by decide +kernel
theorem dX8_takesNumber_69 : decode cX8_takesNumber 69 = .ok (.iconst 5, 1) := by decide +kernel
theorem dX8_takesNumber_70 : decode cX8_takesNumber 70 = .ok (.iadd, 1) := by decide +kernel
theorem dX8_takesNumber_71 : decode cX8_takesNumber 71 = .ok (.if_icmp .ne 12, 3) := by decide +kernel
theorem dX8_takesNumber_74 : decode cX8_takesNumber 74 = .ok (.aload_n 0, 1) := by decide +kernel
theorem dX8_takesNumber_75 : decode cX8_takesNumber 75 = .ok (.aload_n 0, 1) := by decide +kernel
theorem dX8_takesNumber_76 : decode cX8_takesNumber 76 = .ok (.getfield 208, 3) := by decide +kernel
theorem dX8_takesNumber_79 : decode cX8_takesNumber 79 = .ok (.invokevirtual 220, 3) := by decide +kernel
theorem dX8_takesNumber_82 : decode cX8_takesNumber 82 = .ok (.ireturn, 1) := by decide +kernel
theorem dX8_takesNumber_83 : decode cX8_takesNumber 83 = .ok (.bipush 10, 2) := by decide +kernel
theorem dX8_takesNumber_85 : decode cX8_takesNumber 85 = .ok (.iload 5, 2) := by decide +kernel
theorem dX8_takesNumber_87 : decode cX8_takesNumber 87 = .ok (.imul, 1) := by decide +kernel
theorem dX8_takesNumber_88 : decode cX8_takesNumber 88 = .ok (.aload_n 0, 1) := by decide +kernel
theorem dX8_takesNumber_89 : decode cX8_takesNumber 89 = .ok (.getfield 25, 3) := by decide +kernel
theorem dX8_takesNumber_92 : decode cX8_takesNumber 92 = .ok (.aload_n 0, 1) := by decide +kernel
theorem dX8_takesNumber_93 : decode cX8_takesNumber 93 = .ok (.getfield 208, 3) := by decide +kernel
theorem dX8_takesNumber_96 : decode cX8_takesNumber 96 = .ok (.iaload, 1) := by decide +kernel
theorem dX8_takesNumber_97 : decode cX8_takesNumber 97 = .ok (.iadd, 1) := by decide +kernel
theorem dX8_takesNumber_98 : decode cX8_takesNumber 98 = .ok (.bipush 48, 2) := by decide +kernel
theorem dX8_takesNumber_100 : decode cX8_takesNumber 100 = .ok (.isub, 1) := by decide +kernel
theorem dX8_takesNumber_101 : decode cX8_takesNumber 101 = .ok (.istore 5, 2) := by decide +kernel
theorem dX8_takesNumber_103 : decode cX8_takesNumber 103 = .ok (.aload_n 0, 1) := by decide +kernel
theorem dX8_takesNumber_104 : decode cX8_takesNumber 104 = .ok (.dup, 1) := by decide +kernel
theorem dX8_takesNumber_105 : decode cX8_takesNumber 105 = .ok (.getfield 208, 3) := by decide +kernel
theorem dX8_takesNumber_108 : decode cX8_takesNumber 108 = .ok (.iconst 1, 1) := by decide +kernel
theorem dX8_takesNumber_109 : decode cX8_takesNumber 109 = .ok (.iadd, 1) := by decide +kernel
theorem dX8_takesNumber_110 : decode cX8_takesNumber 110 = .ok (.putfield 208, 3) := by decide +kernel
theorem dX8_takesNumber_113 : decode cX8_takesNumber 113 = .ok (.goto (-61), 3) := by decide +kernel
theorem dX8_takesNumber_116 : decode cX8_takesNumber 116 = .ok (.aload_n 0, 1) := by decide +kernel
theorem dX8_takesNumber_117 : decode cX8_takesNumber 117 = .ok (.getfield 40, 3) := by decide +kernel
theorem dX8_takesNumber_120 : decode cX8_takesNumber 120 = .ok (.iload_n 1, 1) := by decide +kernel
theorem dX8_takesNumber_121 : decode cX8_takesNumber 121 = .ok (.iload_n 3, 1) := by decide +kernel
theorem dX8_takesNumber_122 : decode cX8_takesNumber 122 = .ok (.ifCond .eq 9, 3) := by decide +kernel
theorem dX8_takesNumber_125 : decode cX8_takesNumber 125 = .ok (.iload 5, 2) := by decide +kernel
theorem dX8_takesNumber_127 : decode cX8_takesNumber 127 = .ok (.ineg, 1) := by decide +kernel
theorem dX8_takesNumber_128 : decode cX8_takesNumber 128 = .ok (.goto 5, 3) := by decide +kernel
theorem dX8_takesNumber_131 : decode cX8_takesNumber 131 = .ok (.iload 5, 2) := by decide +kernel
theorem dX8_takesNumber_133 : decode cX8_takesNumber 133 = .ok (.iastore, 1) := by decide +kernel
theorem dX8_takesNumber_134 : decode cX8_takesNumber 134 = .ok (.aload_n 0, 1) := by decide +kernel
theorem dX8_takesNumber_135 : decode cX8_takesNumber 135 = .ok (.getfield 208, 3) := by decide +kernel
theorem dX8_takesNumber_138 : decode cX8_takesNumber 138 = .ok (.iload 4, 2) := by decide +kernel
theorem dX8_takesNumber_140 : decode cX8_takesNumber 140 = .ok (.if_icmp .gt 14, 3) := by decide +kernel
theorem dX8_takesNumber_143 : decode cX8_takesNumber 143 = .ok (.aload_n 0, 1) := by decide +kernel
theorem dX8_takesNumber_144 : decode cX8_takesNumber 144 = .ok (.aload_n 0, 1) := by decide +kernel
theorem dX8_takesNumber_145 : decode cX8_takesNumber 145 = .ok (.getfield 208, 3) := by decide +kernel
theorem dX8_takesNumber_148 : decode cX8_takesNumber 148 = .ok (.invokevirtual 220, 3) := by decide +kernel
theorem dX8_takesNumber_151 : decode cX8_takesNumber 151 = .ok (.ifCond .eq 7, 3) := by decide +kernel
theorem dX8_takesNumber_154 : decode cX8_takesNumber 154 = .ok (.iconst 1, 1) := by decide +kernel
theorem dX8_takesNumber_155 : decode cX8_takesNumber 155 = .ok (.goto 4, 3) := by decide +kernel
theorem dX8_takesNumber_158 : decode cX8_takesNumber 158 = .ok (.iconst 0, 1) := by decide +kernel
theorem dX8_takesNumber_159 : decode cX8_takesNumber 159 = .ok (.ireturn, 1) := by decide +kernel
theorem dX8_takesOrder_0 : decode cX8_takesOrder 0 = .ok (.aload_n 0, 1) := by decide +kernel
theorem dX8_takesOrder_1 : decode cX8_takesOrder 1 = .ok (.getfield 25, 3) := by decide +kernel
theorem dX8_takesOrder_4 : decode cX8_takesOrder 4 = .ok (.aload_n 0, 1) := by decide +kernel
theorem dX8_takesOrder_5 : decode cX8_takesOrder 5 = .ok (.getfield 208, 3) := by decide +kernel
theorem dX8_takesOrder_8 : decode cX8_takesOrder 8 = .ok (.iaload, 1) := by decide +kernel
theorem dX8_takesOrder_9 : decode cX8_takesOrder 9 = .ok (.istore_n 1, 1) := by decide +kernel
theorem dX8_takesOrder_10 : decode cX8_takesOrder 10 = .ok (.iload_n 1, 1) := by decide +kernel
theorem dX8_takesOrder_11 : decode cX8_takesOrder 11 = .ok (.invokestatic 223, 3) := by decide +kernel
theorem dX8_takesOrder_14 : decode cX8_takesOrder 14 = .ok (.istore_n 2, 1) := by decide +kernel
theorem dX8_takesOrder_15 : decode cX8_takesOrder 15 = .ok (.iload_n 2, 1) := by decide +kernel
theorem dX8_takesOrder_16 : decode cX8_takesOrder 16 = .ok (.ifCond .ge 12, 3) := by decide +kernel
theorem dX8_takesOrder_19 : decode cX8_takesOrder 19 = .ok (.aload_n 0, 1) := by decide +kernel
theorem dX8_takesOrder_20 : decode cX8_takesOrder 20 = .ok (.aload_n 0, 1) := by decide +kernel
theorem dX8_takesOrder_21 : decode cX8_takesOrder 21 = .ok (.getfield 208, 3) := by decide +kernel
theorem dX8_takesOrder_24 : decode cX8_takesOrder 24 = .ok (.invokevirtual 220, 3) := by decide +kernel
theorem dX8_takesOrder_27 : decode cX8_takesOrder 27 = .ok (.ireturn, 1) := by decide +kernel
theorem dX8_takesOrder_28 : decode cX8_takesOrder 28 = .ok (.aload_n 0, 1) := by decide +kernel
theorem dX8_takesOrder_29 : decode cX8_takesOrder 29 = .ok (.getfield 37, 3) := by decide +kernel
theorem dX8_takesOrder_32 : decode cX8_takesOrder 32 = .ok (.aload_n 0, 1) := by decide +kernel
theorem dX8_takesOrder_33 : decode cX8_takesOrder 33 = .ok (.getfield 226, 3) := by decide +kernel
theorem dX8_takesOrder_36 : decode cX8_takesOrder 36 = .ok (.iload_n 1, 1) := by decide +kernel
theorem dX8_takesOrder_37 : decode cX8_takesOrder 37 = .ok (.iastore, 1) := by decide +kernel
theorem dX8_takesOrder_38 : decode cX8_takesOrder 38 = .ok (.aload_n 0, 1) := by decide +kernel
theorem dX8_takesOrder_39 : decode cX8_takesOrder 39 = .ok (.dup, 1) := by decide +kernel
theorem dX8_takesOrder_40 : decode cX8_takesOrder 40 = .ok (.getfield 208, 3) := by decide +kernel
theorem dX8_takesOrder_43 : decode cX8_takesOrder 43 = .ok (.iconst 1, 1) := by decide +kernel
theorem dX8_takesOrder_44 : decode cX8_takesOrder 44 = .ok (.iadd, 1) := by decide +kernel
theorem dX8_takesOrder_45 : decode cX8_takesOrder 45 = .ok (.putfield 208, 3) := by decide +kernel
theorem dX8_takesOrder_48 : decode cX8_takesOrder 48 = .ok (.iconst 0, 1) := by decide +kernel
theorem dX8_takesOrder_49 : decode cX8_takesOrder 49 = .ok (.istore_n 3, 1) := by decide +kernel
theorem dX8_takesOrder_50 : decode cX8_takesOrder 50 = .ok (.iload_n 3, 1) := by decide +kernel
theorem dX8_takesOrder_51 : decode cX8_takesOrder 51 = .ok (.iload_n 2, 1) := by decide +kernel
theorem dX8_takesOrder_52 : decode cX8_takesOrder 52 = .ok (.if_icmp .ge 42, 3) := by decide +kernel
theorem dX8_takesOrder_55 : decode cX8_takesOrder 55 = .ok (.aload_n 0, 1) := by decide +kernel
theorem dX8_takesOrder_56 : decode cX8_takesOrder 56 = .ok (.iconst 3, 1) := by decide +kernel
theorem dX8_takesOrder_57 : decode cX8_takesOrder 57 = .ok (.aload_n 0, 1) := by decide +kernel
theorem dX8_takesOrder_58 : decode cX8_takesOrder 58 = .ok (.getfield 226, 3) := by decide +kernel
theorem dX8_takesOrder_61 : decode cX8_takesOrder 61 = .ok (.imul, 1) := by decide +kernel
theorem dX8_takesOrder_62 : decode cX8_takesOrder 62 = .ok (.iload_n 3, 1) := by decide +kernel
theorem dX8_takesOrder_63 : decode cX8_takesOrder 63 = .ok (.iadd, 1) := by decide +kernel
theorem dX8_takesOrder_64 : decode cX8_takesOrder 64 = .ok (.iload_n 1, 1) := by decide +kernel
theorem dX8_takesOrder_65 : decode cX8_takesOrder 65 = .ok (.bipush 118, 2) := by decide +kernel
theorem dX8_takesOrder_67 : decode cX8_takesOrder 67 = .ok (.if_icmp .ne 12, 3) := by decide +kernel
theorem dX8_takesOrder_70 : decode cX8_takesOrder 70 = .ok (.iload_n 3, 1) := by decide +kernel
theorem dX8_takesOrder_71 : decode cX8_takesOrder 71 = .ok (.iconst 1, 1) := by decide +kernel
theorem dX8_takesOrder_72 : decode cX8_takesOrder 72 = .ok (.if_icmp .ne 7, 3) := by decide +kernel
theorem dX8_takesOrder_75 : decode cX8_takesOrder 75 = .ok (.iconst 1, 1) := by decide +kernel
theorem dX8_takesOrder_76 : decode cX8_takesOrder 76 = .ok (.goto 4, 3) := by decide +kernel
theorem dX8_takesOrder_79 : decode cX8_takesOrder 79 = .ok (.iconst 0, 1) := by decide +kernel
theorem dX8_takesOrder_80 : decode cX8_takesOrder 80 = .ok (.invokevirtual 229, 3) := by decide +kernel
theorem dX8_takesOrder_83 : decode cX8_takesOrder 83 = .ok (.ifCond .ne 5, 3) := by decide +kernel
theorem dX8_takesOrder_86 : decode cX8_takesOrder 86 = .ok (.iconst 0, 1) := by decide +kernel
theorem dX8_takesOrder_87 : decode cX8_takesOrder 87 = .ok (.ireturn, 1) := by decide +kernel
theorem dX8_takesOrder_88 : decode cX8_takesOrder 88 = .ok (.iinc 3 1, 3) := by decide +kernel
theorem dX8_takesOrder_91 : decode cX8_takesOrder 91 = .ok (.goto (-41), 3) := by decide +kernel
theorem dX8_takesOrder_94 : decode cX8_takesOrder 94 = .ok (.aload_n 0, 1) := by decide +kernel
theorem dX8_takesOrder_95 : decode cX8_takesOrder 95 = .ok (.invokevirtual 217, 3) := by decide +kernel
theorem dX8_takesOrder_98 : decode cX8_takesOrder 98 = .ok (.aload_n 0, 1) := by decide +kernel
theorem dX8_takesOrder_99 : decode cX8_takesOrder 99 = .ok (.bipush 59, 2) := by decide +kernel
theorem dX8_takesOrder_101 : decode cX8_takesOrder 101 = .ok (.bipush 59, 2) := by decide +kernel
theorem dX8_takesOrder_103 : decode cX8_takesOrder 103 = .ok (.invokevirtual 211, 3) := by decide +kernel
theorem dX8_takesOrder_106 : decode cX8_takesOrder 106 = .ok (.ifCond .ne 12, 3) := by decide +kernel
theorem dX8_takesOrder_109 : decode cX8_takesOrder 109 = .ok (.aload_n 0, 1) := by decide +kernel
theorem dX8_takesOrder_110 : decode cX8_takesOrder 110 = .ok (.aload_n 0, 1) := by decide +kernel
theorem dX8_takesOrder_111 : decode cX8_takesOrder 111 = .ok (.getfield 208, 3) := by decide +kernel
theorem dX8_takesOrder_114 : decode cX8_takesOrder 114 = .ok (.invokevirtual 220, 3) := by decide +kernel
theorem dX8_takesOrder_117 : decode cX8_takesOrder 117 = .ok (.ireturn, 1) := by decide +kernel
theorem dX8_takesOrder_118 : decode cX8_takesOrder 118 = .ok (.aload_n 0, 1) := by decide +kernel
theorem dX8_takesOrder_119 : decode cX8_takesOrder 119 = .ok (.dup, 1) := by decide +kernel
theorem dX8_takesOrder_120 : decode cX8_takesOrder 120 = .ok (.getfield 208, 3) := by decide +kernel
theorem dX8_takesOrder_123 : decode cX8_takesOrder 123 = .ok (.iconst 1, 1) := by decide +kernel
theorem dX8_takesOrder_124 : decode cX8_takesOrder 124 = .ok (.iadd, 1) := by decide +kernel
theorem dX8_takesOrder_125 : decode cX8_takesOrder 125 = .ok (.putfield 208, 3) := by decide +kernel
theorem dX8_takesOrder_128 : decode cX8_takesOrder 128 = .ok (.aload_n 0, 1) := by decide +kernel
theorem dX8_takesOrder_129 : decode cX8_takesOrder 129 = .ok (.dup, 1) := by decide +kernel
theorem dX8_takesOrder_130 : decode cX8_takesOrder 130 = .ok (.getfield 226, 3) := by decide +kernel
theorem dX8_takesOrder_133 : decode cX8_takesOrder 133 = .ok (.iconst 1, 1) := by decide +kernel
theorem dX8_takesOrder_134 : decode cX8_takesOrder 134 = .ok (.iadd, 1) := by decide +kernel
theorem dX8_takesOrder_135 : decode cX8_takesOrder 135 = .ok (.putfield 226, 3) := by decide +kernel
theorem dX8_takesOrder_138 : decode cX8_takesOrder 138 = .ok (.iconst 1, 1) := by decide +kernel
theorem dX8_takesOrder_139 : decode cX8_takesOrder 139 = .ok (.ireturn, 1) := by decide +kernel
theorem dX8_isRead_0 : decode cX8_isRead 0 = .ok (.aload_n 0, 1) := by decide +kernel
theorem dX8_isRead_1 : decode cX8_isRead 1 = .ok (.iconst 0, 1) := by decide +kernel
theorem dX8_isRead_2 : decode cX8_isRead 2 = .ok (.putfield 208, 3) := by decide +kernel
theorem dX8_isRead_5 : decode cX8_isRead 5 = .ok (.aload_n 0, 1) := by decide +kernel
theorem dX8_isRead_6 : decode cX8_isRead 6 = .ok (.iconst 0, 1) := by decide +kernel
theorem dX8_isRead_7 : decode cX8_isRead 7 = .ok (.putfield 226, 3) := by decide +kernel
theorem dX8_isRead_10 : decode cX8_isRead 10 = .ok (.aload_n 0, 1) := by decide +kernel
theorem dX8_isRead_11 : decode cX8_isRead 11 = .ok (.invokevirtual 217, 3) := by decide +kernel
theorem dX8_isRead_14 : decode cX8_isRead 14 = .ok (.aload_n 0, 1) := by decide +kernel
theorem dX8_isRead_15 : decode cX8_isRead 15 = .ok (.getfield 208, 3) := by decide +kernel
theorem dX8_isRead_18 : decode cX8_isRead 18 = .ok (.aload_n 0, 1) := by decide +kernel
theorem dX8_isRead_19 : decode cX8_isRead 19 = .ok (.getfield 202, 3) := by decide +kernel
theorem dX8_isRead_22 : decode cX8_isRead 22 = .ok (.if_icmp .ge 19, 3) := by decide +kernel
theorem dX8_isRead_25 : decode cX8_isRead 25 = .ok (.aload_n 0, 1) := by decide +kernel
theorem dX8_isRead_26 : decode cX8_isRead 26 = .ok (.invokevirtual 233, 3) := by decide +kernel
theorem dX8_isRead_29 : decode cX8_isRead 29 = .ok (.ifCond .ne 5, 3) := by decide +kernel
theorem dX8_isRead_32 : decode cX8_isRead 32 = .ok (.iconst 0, 1) := by decide +kernel
theorem dX8_isRead_33 : decode cX8_isRead 33 = .ok (.ireturn, 1) := by decide +kernel
theorem dX8_isRead_34 : decode cX8_isRead 34 = .ok (.aload_n 0, 1) := by decide +kernel
theorem dX8_isRead_35 : decode cX8_isRead 35 = .ok (.invokevirtual 217, 3) := by decide +kernel
theorem dX8_isRead_38 : decode cX8_isRead 38 = .ok (.goto (-24), 3) := by decide +kernel
theorem dX8_isRead_41 : decode cX8_isRead 41 = .ok (.aload_n 0, 1) := by decide +kernel
theorem dX8_isRead_42 : decode cX8_isRead 42 = .ok (.getfield 226, 3) := by decide +kernel
theorem dX8_isRead_45 : decode cX8_isRead 45 = .ok (.ifCond .gt 14, 3) := by decide +kernel
theorem dX8_isRead_48 : decode cX8_isRead 48 = .ok (.aload_n 0, 1) := by decide +kernel
theorem dX8_isRead_49 : decode cX8_isRead 49 = .ok (.aload_n 0, 1) := by decide +kernel
theorem dX8_isRead_50 : decode cX8_isRead 50 = .ok (.getfield 202, 3) := by decide +kernel
theorem dX8_isRead_53 : decode cX8_isRead 53 = .ok (.invokevirtual 220, 3) := by decide +kernel
theorem dX8_isRead_56 : decode cX8_isRead 56 = .ok (.ifCond .eq 7, 3) := by decide +kernel
theorem dX8_isRead_59 : decode cX8_isRead 59 = .ok (.iconst 1, 1) := by decide +kernel
theorem dX8_isRead_60 : decode cX8_isRead 60 = .ok (.goto 4, 3) := by decide +kernel
theorem dX8_isRead_63 : decode cX8_isRead 63 = .ok (.iconst 0, 1) := by decide +kernel
theorem dX8_isRead_64 : decode cX8_isRead 64 = .ok (.ireturn, 1) := by decide +kernel
theorem dX8_steps_0 : decode cX8_steps 0 = .ok (.aload_n 0, 1) := by decide +kernel
theorem dX8_steps_1 : decode cX8_steps 1 = .ok (.getfield 40, 3) := by decide +kernel
theorem dX8_steps_4 : decode cX8_steps 4 = .ok (.iconst 3, 1) := by decide +kernel
theorem dX8_steps_5 : decode cX8_steps 5 = .ok (.iload_n 1, 1) := by decide +kernel
theorem dX8_steps_6 : decode cX8_steps 6 = .ok (.imul, 1) := by decide +kernel
theorem dX8_steps_7 : decode cX8_steps 7 = .ok (.iaload, 1) := by decide +kernel
theorem dX8_steps_8 : decode cX8_steps 8 = .ok (.istore_n 2, 1) := by decide +kernel
theorem dX8_steps_9 : decode cX8_steps 9 = .ok (.aload_n 0, 1) := by decide +kernel
theorem dX8_steps_10 : decode cX8_steps 10 = .ok (.getfield 40, 3) := by decide +kernel
theorem dX8_steps_13 : decode cX8_steps 13 = .ok (.iconst 3, 1) := by decide +kernel
theorem dX8_steps_14 : decode cX8_steps 14 = .ok (.iload_n 1, 1) := by decide +kernel
theorem dX8_steps_15 : decode cX8_steps 15 = .ok (.imul, 1) := by decide +kernel
theorem dX8_steps_16 : decode cX8_steps 16 = .ok (.iconst 1, 1) := by decide +kernel
theorem dX8_steps_17 : decode cX8_steps 17 = .ok (.iadd, 1) := by decide +kernel
theorem dX8_steps_18 : decode cX8_steps 18 = .ok (.iaload, 1) := by decide +kernel
theorem dX8_steps_19 : decode cX8_steps 19 = .ok (.istore_n 3, 1) := by decide +kernel
theorem dX8_steps_20 : decode cX8_steps 20 = .ok (.aload_n 0, 1) := by decide +kernel
theorem dX8_steps_21 : decode cX8_steps 21 = .ok (.getfield 40, 3) := by decide +kernel
theorem dX8_steps_24 : decode cX8_steps 24 = .ok (.iconst 3, 1) := by decide +kernel
theorem dX8_steps_25 : decode cX8_steps 25 = .ok (.iload_n 1, 1) := by decide +kernel
theorem dX8_steps_26 : decode cX8_steps 26 = .ok (.imul, 1) := by decide +kernel
theorem dX8_steps_27 : decode cX8_steps 27 = .ok (.iconst 2, 1) := by decide +kernel
theorem dX8_steps_28 : decode cX8_steps 28 = .ok (.iadd, 1) := by decide +kernel
theorem dX8_steps_29 : decode cX8_steps 29 = .ok (.iaload, 1) := by decide +kernel
theorem dX8_steps_30 : decode cX8_steps 30 = .ok (.istore 4, 2) := by decide +kernel
theorem dX8_steps_32 : decode cX8_steps 32 = .ok (.aload_n 0, 1) := by decide +kernel
theorem dX8_steps_33 : decode cX8_steps 33 = .ok (.iload_n 1, 1) := by decide +kernel
theorem dX8_steps_34 : decode cX8_steps 34 = .ok (.iconst 1, 1) := by decide +kernel
theorem dX8_steps_35 : decode cX8_steps 35 = .ok (.iadd, 1) := by decide +kernel
theorem dX8_steps_36 : decode cX8_steps 36 = .ok (.putfield 236, 3) := by decide +kernel
theorem dX8_steps_39 : decode cX8_steps 39 = .ok (.aload_n 0, 1) := by decide +kernel
theorem dX8_steps_40 : decode cX8_steps 40 = .ok (.getfield 37, 3) := by decide +kernel
theorem dX8_steps_43 : decode cX8_steps 43 = .ok (.iload_n 1, 1) := by decide +kernel
theorem dX8_steps_44 : decode cX8_steps 44 = .ok (.iaload, 1) := by decide +kernel
theorem dX8_steps_45 : decode cX8_steps 45 = .ok (.bipush 106, 2) := by decide +kernel
theorem dX8_steps_47 : decode cX8_steps 47 = .ok (.if_icmp .ne 10, 3) := by decide +kernel
theorem dX8_steps_50 : decode cX8_steps 50 = .ok (.aload_n 0, 1) := by decide +kernel
theorem dX8_steps_51 : decode cX8_steps 51 = .ok (.iload_n 2, 1) := by decide +kernel
theorem dX8_steps_52 : decode cX8_steps 52 = .ok (.iload_n 3, 1) := by decide +kernel
theorem dX8_steps_53 : decode cX8_steps 53 = .ok (.invokevirtual 239, 3) := by decide +kernel
theorem dX8_steps_56 : decode cX8_steps 56 = .ok (.ireturn, 1) := by decide +kernel
theorem dX8_steps_57 : decode cX8_steps 57 = .ok (.aload_n 0, 1) := by decide +kernel
theorem dX8_steps_58 : decode cX8_steps 58 = .ok (.getfield 37, 3) := by decide +kernel
theorem dX8_steps_61 : decode cX8_steps 61 = .ok (.iload_n 1, 1) := by decide +kernel
theorem dX8_steps_62 : decode cX8_steps 62 = .ok (.iaload, 1) := by decide +kernel
theorem dX8_steps_63 : decode cX8_steps 63 = .ok (.bipush 100, 2) := by decide +kernel
theorem dX8_steps_65 : decode cX8_steps 65 = .ok (.if_icmp .eq 18, 3) := by decide +kernel
theorem dX8_steps_68 : decode cX8_steps 68 = .ok (.aload_n 0, 1) := by decide +kernel
theorem dX8_steps_69 : decode cX8_steps 69 = .ok (.aload_n 0, 1) := by decide +kernel
theorem dX8_steps_70 : decode cX8_steps 70 = .ok (.getfield 37, 3) := by decide +kernel
theorem dX8_steps_73 : decode cX8_steps 73 = .ok (.iload_n 1, 1) := by decide +kernel
theorem dX8_steps_74 : decode cX8_steps 74 = .ok (.iaload, 1) := by decide +kernel
theorem dX8_steps_75 : decode cX8_steps 75 = .ok (.iload_n 2, 1) := by decide +kernel
theorem dX8_steps_76 : decode cX8_steps 76 = .ok (.iload_n 3, 1) := by decide +kernel
theorem dX8_steps_77 : decode cX8_steps 77 = .ok (.iload 4, 2) := by decide +kernel
theorem dX8_steps_79 : decode cX8_steps 79 = .ok (.invokevirtual 159, 3) := by decide +kernel
theorem dX8_steps_82 : decode cX8_steps 82 = .ok (.ireturn, 1) := by decide +kernel
theorem dX8_steps_83 : decode cX8_steps 83 = .ok (.iload 4, 2) := by decide +kernel
theorem dX8_steps_85 : decode cX8_steps 85 = .ok (.invokestatic 85, 3) := by decide +kernel
theorem dX8_steps_88 : decode cX8_steps 88 = .ok (.ifCond .eq 12, 3) := by decide +kernel
theorem dX8_steps_91 : decode cX8_steps 91 = .ok (.aload_n 0, 1) := by decide +kernel
theorem dX8_steps_92 : decode cX8_steps 92 = .ok (.iload_n 2, 1) := by decide +kernel
theorem dX8_steps_93 : decode cX8_steps 93 = .ok (.iload_n 3, 1) := by decide +kernel
theorem dX8_steps_94 : decode cX8_steps 94 = .ok (.invokevirtual 171, 3) := by decide +kernel
theorem dX8_steps_97 : decode cX8_steps 97 = .ok (.goto 5, 3) := by decide +kernel
theorem dX8_steps_100 : decode cX8_steps 100 = .ok (.bipush (-2), 2) := by decide +kernel
theorem dX8_steps_102 : decode cX8_steps 102 = .ok (.istore 5, 2) := by decide +kernel
theorem dX8_steps_104 : decode cX8_steps 104 = .ok (.iload 5, 2) := by decide +kernel
theorem dX8_steps_106 : decode cX8_steps 106 = .ok (.ifCond .ge 8, 3) := by decide +kernel
theorem dX8_steps_109 : decode cX8_steps 109 = .ok (.iload 5, 2) := by decide +kernel
theorem dX8_steps_111 : decode cX8_steps 111 = .ok (.goto 13, 3) := by decide +kernel
theorem dX8_steps_114 : decode cX8_steps 114 = .ok (.aload_n 0, 1) := by decide +kernel
theorem dX8_steps_115 : decode cX8_steps 115 = .ok (.iload 4, 2) := by decide +kernel
theorem dX8_steps_117 : decode cX8_steps 117 = .ok (.iconst 1, 1) := by decide +kernel
theorem dX8_steps_118 : decode cX8_steps 118 = .ok (.iload 5, 2) := by decide +kernel
theorem dX8_steps_120 : decode cX8_steps 120 = .ok (.iconst 0, 1) := by decide +kernel
theorem dX8_steps_121 : decode cX8_steps 121 = .ok (.invokevirtual 88, 3) := by decide +kernel
theorem dX8_steps_124 : decode cX8_steps 124 = .ok (.ireturn, 1) := by decide +kernel
theorem dX8_jumps_0 : decode cX8_jumps 0 = .ok (.iload_n 1, 1) := by decide +kernel
theorem dX8_jumps_1 : decode cX8_jumps 1 = .ok (.invokestatic 85, 3) := by decide +kernel
theorem dX8_jumps_4 : decode cX8_jumps 4 = .ok (.ifCond .ne 6, 3) := by decide +kernel
theorem dX8_jumps_7 : decode cX8_jumps 7 = .ok (.bipush (-2), 2) := by decide +kernel
theorem dX8_jumps_9 : decode cX8_jumps 9 = .ok (.ireturn, 1) := by decide +kernel
theorem dX8_jumps_10 : decode cX8_jumps 10 = .ok (.aload_n 0, 1) := by decide +kernel
theorem dX8_jumps_11 : decode cX8_jumps 11 = .ok (.iload_n 1, 1) := by decide +kernel
theorem dX8_jumps_12 : decode cX8_jumps 12 = .ok (.invokevirtual 55, 3) := by decide +kernel
theorem dX8_jumps_15 : decode cX8_jumps 15 = .ok (.iconst 1, 1) := by decide +kernel
theorem dX8_jumps_16 : decode cX8_jumps 16 = .ok (.if_icmp .eq 21, 3) := by decide +kernel
theorem dX8_jumps_19 : decode cX8_jumps 19 = .ok (.aload_n 0, 1) := by decide +kernel
theorem dX8_jumps_20 : decode cX8_jumps 20 = .ok (.iload_n 1, 1) := by decide +kernel
theorem dX8_jumps_21 : decode cX8_jumps 21 = .ok (.invokevirtual 55, 3) := by decide +kernel
theorem dX8_jumps_24 : decode cX8_jumps 24 = .ok (.ifCond .ne 7, 3) := by decide +kernel
theorem dX8_jumps_27 : decode cX8_jumps 27 = .ok (.iconst 1, 1) := by decide +kernel
theorem dX8_jumps_28 : decode cX8_jumps 28 = .ok (.goto 5, 3) := by decide +kernel
theorem dX8_jumps_31 : decode cX8_jumps 31 = .ok (.bipush 7, 2) := by decide +kernel
theorem dX8_jumps_33 : decode cX8_jumps 33 = .ok (.invokestatic 92, 3) := by decide +kernel
theorem dX8_jumps_36 : decode cX8_jumps 36 = .ok (.ireturn, 1) := by decide +kernel
theorem dX8_jumps_37 : decode cX8_jumps 37 = .ok (.aload_n 0, 1) := by decide +kernel
theorem dX8_jumps_38 : decode cX8_jumps 38 = .ok (.aload_n 0, 1) := by decide +kernel
theorem dX8_jumps_39 : decode cX8_jumps 39 = .ok (.iload_n 1, 1) := by decide +kernel
theorem dX8_jumps_40 : decode cX8_jumps 40 = .ok (.invokevirtual 58, 3) := by decide +kernel
theorem dX8_jumps_43 : decode cX8_jumps 43 = .ok (.ifCond .ne 10, 3) := by decide +kernel
theorem dX8_jumps_46 : decode cX8_jumps 46 = .ok (.aload_n 0, 1) := by decide +kernel
theorem dX8_jumps_47 : decode cX8_jumps 47 = .ok (.getfield 236, 3) := by decide +kernel
theorem dX8_jumps_50 : decode cX8_jumps 50 = .ok (.goto 4, 3) := by decide +kernel
theorem dX8_jumps_53 : decode cX8_jumps 53 = .ok (.iload_n 2, 1) := by decide +kernel
theorem dX8_jumps_54 : decode cX8_jumps 54 = .ok (.putfield 236, 3) := by decide +kernel
theorem dX8_jumps_57 : decode cX8_jumps 57 = .ok (.iconst 0, 1) := by decide +kernel
theorem dX8_jumps_58 : decode cX8_jumps 58 = .ok (.ireturn, 1) := by decide +kernel
theorem dX8_toldAs_0 : decode cX8_toldAs 0 = .ok (.iload_n 0, 1) := by decide +kernel
theorem dX8_toldAs_1 : decode cX8_toldAs 1 = .ok (.bipush (-2), 2) := by decide +kernel
theorem dX8_toldAs_3 : decode cX8_toldAs 3 = .ok (.if_icmp .ne 11, 3) := by decide +kernel
theorem dX8_toldAs_6 : decode cX8_toldAs 6 = .ok (.sipush (-2000), 3) := by decide +kernel
theorem dX8_toldAs_9 : decode cX8_toldAs 9 = .ok (.iload_n 1, 1) := by decide +kernel
theorem dX8_toldAs_10 : decode cX8_toldAs 10 = .ok (.isub, 1) := by decide +kernel
theorem dX8_toldAs_11 : decode cX8_toldAs 11 = .ok (.goto 31, 3) := by decide +kernel
theorem dX8_toldAs_14 : decode cX8_toldAs 14 = .ok (.iload_n 0, 1) := by decide +kernel
theorem dX8_toldAs_15 : decode cX8_toldAs 15 = .ok (.bipush (-4), 2) := by decide +kernel
theorem dX8_toldAs_17 : decode cX8_toldAs 17 = .ok (.if_icmp .ne 11, 3) := by decide +kernel
theorem dX8_toldAs_20 : decode cX8_toldAs 20 = .ok (.sipush (-3000), 3) := by decide +kernel
theorem dX8_toldAs_23 : decode cX8_toldAs 23 = .ok (.iload_n 1, 1) := by decide +kernel
theorem dX8_toldAs_24 : decode cX8_toldAs 24 = .ok (.isub, 1) := by decide +kernel
theorem dX8_toldAs_25 : decode cX8_toldAs 25 = .ok (.goto 17, 3) := by decide +kernel
theorem dX8_toldAs_28 : decode cX8_toldAs 28 = .ok (.sipush (-4000), 3) := by decide +kernel
theorem dX8_toldAs_31 : decode cX8_toldAs 31 = .ok (.sipush 1000, 3) := by decide +kernel
theorem dX8_toldAs_34 : decode cX8_toldAs 34 = .ok (.bipush (-10), 2) := by decide +kernel
theorem dX8_toldAs_36 : decode cX8_toldAs 36 = .ok (.iload_n 0, 1) := by decide +kernel
theorem dX8_toldAs_37 : decode cX8_toldAs 37 = .ok (.isub, 1) := by decide +kernel
theorem dX8_toldAs_38 : decode cX8_toldAs 38 = .ok (.imul, 1) := by decide +kernel
theorem dX8_toldAs_39 : decode cX8_toldAs 39 = .ok (.isub, 1) := by decide +kernel
theorem dX8_toldAs_40 : decode cX8_toldAs 40 = .ok (.iload_n 1, 1) := by decide +kernel
theorem dX8_toldAs_41 : decode cX8_toldAs 41 = .ok (.isub, 1) := by decide +kernel
theorem dX8_toldAs_42 : decode cX8_toldAs 42 = .ok (.ireturn, 1) := by decide +kernel
theorem dX8_goes_0 : decode cX8_goes 0 = .ok (.iconst 0, 1) := by decide +kernel
theorem dX8_goes_1 : decode cX8_goes 1 = .ok (.istore_n 1, 1) := by decide +kernel
theorem dX8_goes_2 : decode cX8_goes 2 = .ok (.iconst 0, 1) := by decide +kernel
theorem dX8_goes_3 : decode cX8_goes 3 = .ok (.istore_n 2, 1) := by decide +kernel
theorem dX8_goes_4 : decode cX8_goes 4 = .ok (.iload_n 2, 1) := by decide +kernel
theorem dX8_goes_5 : decode cX8_goes 5 = .ok (.aload_n 0, 1) := by decide +kernel
theorem dX8_goes_6 : decode cX8_goes 6 = .ok (.getfield 226, 3) := by decide +kernel
theorem dX8_goes_9 : decode cX8_goes 9 = .ok (.if_icmp .ge 46, 3) := by decide +kernel
theorem dX8_goes_12 : decode cX8_goes 12 = .ok (.iload_n 1, 1) := by decide +kernel
theorem dX8_goes_13 : decode cX8_goes 13 = .ok (.aload_n 0, 1) := by decide +kernel
theorem dX8_goes_14 : decode cX8_goes 14 = .ok (.getfield 7, 3) := by decide +kernel
theorem dX8_goes_17 : decode cX8_goes 17 = .ok (.sipush 169, 3) := by decide +kernel
theorem dX8_goes_20 : decode cX8_goes 20 = .ok (.iaload, 1) := by decide +kernel
theorem dX8_goes_21 : decode cX8_goes 21 = .ok (.if_icmp .ne 7, 3) := by decide +kernel
theorem dX8_goes_24 : decode cX8_goes 24 = .ok (.sipush (-500), 3) := by decide +kernel
theorem dX8_goes_27 : decode cX8_goes 27 = .ok (.ireturn, 1) := by decide +kernel
theorem dX8_goes_28 : decode cX8_goes 28 = .ok (.aload_n 0, 1) := by decide +kernel
theorem dX8_goes_29 : decode cX8_goes 29 = .ok (.iload_n 2, 1) := by decide +kernel
theorem dX8_goes_30 : decode cX8_goes 30 = .ok (.invokevirtual 242, 3) := by decide +kernel
theorem dX8_goes_33 : decode cX8_goes 33 = .ok (.istore_n 3, 1) := by decide +kernel
theorem dX8_goes_34 : decode cX8_goes 34 = .ok (.iload_n 3, 1) := by decide +kernel
theorem dX8_goes_35 : decode cX8_goes 35 = .ok (.ifCond .ge 9, 3) := by decide +kernel
theorem dX8_goes_38 : decode cX8_goes 38 = .ok (.iload_n 3, 1) := by decide +kernel
theorem dX8_goes_39 : decode cX8_goes 39 = .ok (.iload_n 2, 1) := by decide +kernel
theorem dX8_goes_40 : decode cX8_goes 40 = .ok (.invokestatic 245, 3) := by decide +kernel
theorem dX8_goes_43 : decode cX8_goes 43 = .ok (.ireturn, 1) := by decide +kernel
theorem dX8_goes_44 : decode cX8_goes 44 = .ok (.iinc 1 1, 3) := by decide +kernel
theorem dX8_goes_47 : decode cX8_goes 47 = .ok (.aload_n 0, 1) := by decide +kernel
theorem dX8_goes_48 : decode cX8_goes 48 = .ok (.getfield 236, 3) := by decide +kernel
theorem dX8_goes_51 : decode cX8_goes 51 = .ok (.istore_n 2, 1) := by decide +kernel
theorem dX8_goes_52 : decode cX8_goes 52 = .ok (.goto (-48), 3) := by decide +kernel
theorem dX8_goes_55 : decode cX8_goes 55 = .ok (.iload_n 1, 1) := by decide +kernel
theorem dX8_goes_56 : decode cX8_goes 56 = .ok (.ireturn, 1) := by decide +kernel
theorem dX8_does_0 : decode cX8_does 0 = .ok (.aload_n 0, 1) := by decide +kernel
theorem dX8_does_1 : decode cX8_does 1 = .ok (.invokevirtual 248, 3) := by decide +kernel
theorem dX8_does_4 : decode cX8_does 4 = .ok (.ifCond .ne 11, 3) := by decide +kernel
theorem dX8_does_7 : decode cX8_does 7 = .ok (.bipush (-10), 2) := by decide +kernel
theorem dX8_does_9 : decode cX8_does 9 = .ok (.aload_n 0, 1) := by decide +kernel
theorem dX8_does_10 : decode cX8_does 10 = .ok (.getfield 214, 3) := by decide +kernel
theorem dX8_does_13 : decode cX8_does 13 = .ok (.isub, 1) := by decide +kernel
theorem dX8_does_14 : decode cX8_does 14 = .ok (.ireturn, 1) := by decide +kernel
theorem dX8_does_15 : decode cX8_does 15 = .ok (.aload_n 0, 1) := by decide +kernel
theorem dX8_does_16 : decode cX8_does 16 = .ok (.invokevirtual 156, 3) := by decide +kernel
theorem dX8_does_19 : decode cX8_does 19 = .ok (.aload_n 0, 1) := by decide +kernel
theorem dX8_does_20 : decode cX8_does 20 = .ok (.invokevirtual 251, 3) := by decide +kernel
theorem dX8_does_23 : decode cX8_does 23 = .ok (.istore_n 1, 1) := by decide +kernel
theorem dX8_does_24 : decode cX8_does 24 = .ok (.iload_n 1, 1) := by decide +kernel
theorem dX8_does_25 : decode cX8_does 25 = .ok (.ifCond .lt 9, 3) := by decide +kernel
theorem dX8_does_28 : decode cX8_does 28 = .ok (.aload_n 0, 1) := by decide +kernel
theorem dX8_does_29 : decode cX8_does 29 = .ok (.invokevirtual 162, 3) := by decide +kernel
theorem dX8_does_32 : decode cX8_does 32 = .ok (.iload_n 1, 1) := by decide +kernel
theorem dX8_does_33 : decode cX8_does 33 = .ok (.ireturn, 1) := by decide +kernel
theorem dX8_does_34 : decode cX8_does 34 = .ok (.iconst 0, 1) := by decide +kernel
theorem dX8_does_35 : decode cX8_does 35 = .ok (.istore_n 2, 1) := by decide +kernel
theorem dX8_does_36 : decode cX8_does 36 = .ok (.iload_n 2, 1) := by decide +kernel
theorem dX8_does_37 : decode cX8_does 37 = .ok (.sipush 1219, 3) := by decide +kernel
theorem dX8_does_40 : decode cX8_does 40 = .ok (.if_icmp .ge 21, 3) := by decide +kernel
theorem dX8_does_43 : decode cX8_does 43 = .ok (.aload_n 0, 1) := by decide +kernel
theorem dX8_does_44 : decode cX8_does 44 = .ok (.getfield 7, 3) := by decide +kernel
theorem dX8_does_47 : decode cX8_does 47 = .ok (.iload_n 2, 1) := by decide +kernel
theorem dX8_does_48 : decode cX8_does 48 = .ok (.aload_n 0, 1) := by decide +kernel
theorem dX8_does_49 : decode cX8_does 49 = .ok (.getfield 13, 3) := by decide +kernel
theorem dX8_does_52 : decode cX8_does 52 = .ok (.iload_n 2, 1) := by decide +kernel
theorem dX8_does_53 : decode cX8_does 53 = .ok (.iaload, 1) := by decide +kernel
theorem dX8_does_54 : decode cX8_does 54 = .ok (.iastore, 1) := by decide +kernel
theorem dX8_does_55 : decode cX8_does 55 = .ok (.iinc 2 1, 3) := by decide +kernel
theorem dX8_does_58 : decode cX8_does 58 = .ok (.goto (-22), 3) := by decide +kernel
theorem dX8_does_61 : decode cX8_does 61 = .ok (.iload_n 1, 1) := by decide +kernel
theorem dX8_does_62 : decode cX8_does 62 = .ok (.ireturn, 1) := by decide +kernel
theorem dX8_mix_0 : decode cX8_mix 0 = .ok (.aload_n 0, 1) := by decide +kernel
theorem dX8_mix_1 : decode cX8_mix 1 = .ok (.ldc2_w 254, 3) := by decide +kernel
theorem dX8_mix_4 : decode cX8_mix 4 = .ok (.aload_n 0, 1) := by decide +kernel
theorem dX8_mix_5 : decode cX8_mix 5 = .ok (.getfield 256, 3) := by decide +kernel
theorem dX8_mix_8 : decode cX8_mix 8 = .ok (.lmul, 1) := by decide +kernel
theorem dX8_mix_9 : decode cX8_mix 9 = .ok (.lload_n 1, 1) := by decide +kernel
theorem dX8_mix_10 : decode cX8_mix 10 = .ok (.ladd, 1) := by decide +kernel
theorem dX8_mix_11 : decode cX8_mix 11 = .ok (.putfield 256, 3) := by decide +kernel
theorem dX8_mix_14 : decode cX8_mix 14 = .ok (.return_, 1) := by decide +kernel
theorem dX8_mixImage_0 : decode cX8_mixImage 0 = .ok (.sipush 171, 3) := by decide +kernel
theorem dX8_mixImage_3 : decode cX8_mixImage 3 = .ok (.sipush 131, 3) := by decide +kernel
theorem dX8_mixImage_6 : decode cX8_mixImage 6 = .ok (.iload_n 1, 1) := by decide +kernel
theorem dX8_mixImage_7 : decode cX8_mixImage 7 = .ok (.imul, 1) := by decide +kernel
theorem dX8_mixImage_8 : decode cX8_mixImage 8 = .ok (.iadd, 1) := by decide +kernel
theorem dX8_mixImage_9 : decode cX8_mixImage 9 = .ok (.istore_n 2, 1) := by decide +kernel
theorem dX8_mixImage_10 : decode cX8_mixImage 10 = .ok (.iconst 0, 1) := by decide +kernel
theorem dX8_mixImage_11 : decode cX8_mixImage 11 = .ok (.istore_n 3, 1) := by decide +kernel
theorem dX8_mixImage_12 : decode cX8_mixImage 12 = .ok (.iload_n 3, 1) := by decide +kernel
theorem dX8_mixImage_13 : decode cX8_mixImage 13 = .ok (.iconst 3, 1) := by decide +kernel
theorem dX8_mixImage_14 : decode cX8_mixImage 14 = .ok (.if_icmp .ge 20, 3) := by decide +kernel
theorem dX8_mixImage_17 : decode cX8_mixImage 17 = .ok (.aload_n 0, 1) := by decide +kernel
theorem dX8_mixImage_18 : decode cX8_mixImage 18 = .ok (.aload_n 0, 1) := by decide +kernel
theorem dX8_mixImage_19 : decode cX8_mixImage 19 = .ok (.iload_n 1, 1) := by decide +kernel
theorem dX8_mixImage_20 : decode cX8_mixImage 20 = .ok (.iload_n 3, 1) := by decide +kernel
theorem dX8_mixImage_21 : decode cX8_mixImage 21 = .ok (.invokevirtual 196, 3) := by decide +kernel
theorem dX8_mixImage_24 : decode cX8_mixImage 24 = .ok (.i2l, 1) := by decide +kernel
theorem dX8_mixImage_25 : decode cX8_mixImage 25 = .ok (.invokevirtual 260, 3) := by decide +kernel
theorem dX8_mixImage_28 : decode cX8_mixImage 28 = .ok (.iinc 3 1, 3) := by decide +kernel
theorem dX8_mixImage_31 : decode cX8_mixImage 31 = .ok (.goto (-19), 3) := by decide +kernel
theorem dX8_mixImage_34 : decode cX8_mixImage 34 = .ok (.iconst 0, 1) := by decide +kernel
theorem dX8_mixImage_35 : decode cX8_mixImage 35 = .ok (.istore_n 3, 1) := by decide +kernel
theorem dX8_mixImage_36 : decode cX8_mixImage 36 = .ok (.iload_n 3, 1) := by decide +kernel
theorem dX8_mixImage_37 : decode cX8_mixImage 37 = .ok (.aload_n 0, 1) := by decide +kernel
theorem dX8_mixImage_38 : decode cX8_mixImage 38 = .ok (.getfield 7, 3) := by decide +kernel
theorem dX8_mixImage_41 : decode cX8_mixImage 41 = .ok (.iload_n 2, 1) := by decide +kernel
theorem dX8_mixImage_42 : decode cX8_mixImage 42 = .ok (.iaload, 1) := by decide +kernel
theorem dX8_mixImage_43 : decode cX8_mixImage 43 = .ok (.if_icmp .ge 55, 3) := by decide +kernel
theorem dX8_mixImage_46 : decode cX8_mixImage 46 = .ok (.iconst 0, 1) := by decide +kernel
theorem dX8_mixImage_47 : decode cX8_mixImage 47 = .ok (.istore 4, 2) := by decide +kernel
theorem dX8_mixImage_49 : decode cX8_mixImage 49 = .ok (.iload 4, 2) := by decide +kernel
theorem dX8_mixImage_51 : decode cX8_mixImage 51 = .ok (.aload_n 0, 1) := by decide +kernel
theorem dX8_mixImage_52 : decode cX8_mixImage 52 = .ok (.getfield 7, 3) := by decide +kernel
theorem dX8_mixImage_55 : decode cX8_mixImage 55 = .ok (.iload_n 2, 1) := by decide +kernel
theorem dX8_mixImage_56 : decode cX8_mixImage 56 = .ok (.iconst 1, 1) := by decide +kernel
theorem dX8_mixImage_57 : decode cX8_mixImage 57 = .ok (.iadd, 1) := by decide +kernel
theorem dX8_mixImage_58 : decode cX8_mixImage 58 = .ok (.iload_n 3, 1) := by decide +kernel
theorem dX8_mixImage_59 : decode cX8_mixImage 59 = .ok (.iadd, 1) := by decide +kernel
theorem dX8_mixImage_60 : decode cX8_mixImage 60 = .ok (.iaload, 1) := by decide +kernel
theorem dX8_mixImage_61 : decode cX8_mixImage 61 = .ok (.if_icmp .ge 31, 3) := by decide +kernel
theorem dX8_mixImage_64 : decode cX8_mixImage 64 = .ok (.aload_n 0, 1) := by decide +kernel
theorem dX8_mixImage_65 : decode cX8_mixImage 65 = .ok (.aload_n 0, 1) := by decide +kernel
theorem dX8_mixImage_66 : decode cX8_mixImage 66 = .ok (.getfield 7, 3) := by decide +kernel
theorem dX8_mixImage_69 : decode cX8_mixImage 69 = .ok (.iload_n 2, 1) := by decide +kernel
theorem dX8_mixImage_70 : decode cX8_mixImage 70 = .ok (.bipush 11, 2) := by decide +kernel
theorem dX8_mixImage_72 : decode cX8_mixImage 72 = .ok (.iadd, 1) := by decide +kernel
theorem dX8_mixImage_73 : decode cX8_mixImage 73 = .ok (.bipush 12, 2) := by decide +kernel
theorem dX8_mixImage_75 : decode cX8_mixImage 75 = .ok (.iload_n 3, 1) := by decide +kernel
theorem dX8_mixImage_76 : decode cX8_mixImage 76 = .ok (.imul, 1) := by decide +kernel
theorem dX8_mixImage_77 : decode cX8_mixImage 77 = .ok (.iadd, 1) := by decide +kernel
theorem dX8_mixImage_78 : decode cX8_mixImage 78 = .ok (.iload 4, 2) := by decide +kernel
theorem dX8_mixImage_80 : decode cX8_mixImage 80 = .ok (.iadd, 1) := by decide +kernel
theorem dX8_mixImage_81 : decode cX8_mixImage 81 = .ok (.iaload, 1) := by decide +kernel
theorem dX8_mixImage_82 : decode cX8_mixImage 82 = .ok (.i2l, 1) := by decide +kernel
theorem dX8_mixImage_83 : decode cX8_mixImage 83 = .ok (.invokevirtual 260, 3) := by decide +kernel
theorem dX8_mixImage_86 : decode cX8_mixImage 86 = .ok (.iinc 4 1, 3) := by decide +kernel
theorem dX8_mixImage_89 : decode cX8_mixImage 89 = .ok (.goto (-40), 3) := by decide +kernel
theorem dX8_mixImage_92 : decode cX8_mixImage 92 = .ok (.iinc 3 1, 3) := by decide +kernel
theorem dX8_mixImage_95 : decode cX8_mixImage 95 = .ok (.goto (-59), 3) := by decide +kernel
theorem dX8_mixImage_98 : decode cX8_mixImage 98 = .ok (.return_, 1) := by decide +kernel
theorem dX8_digest_0 : decode cX8_digest 0 = .ok (.aload_n 0, 1) := by decide +kernel
theorem dX8_digest_1 : decode cX8_digest 1 = .ok (.ldc2_w 264, 3) := by decide +kernel
theorem dX8_digest_4 : decode cX8_digest 4 = .ok (.putfield 256, 3) := by decide +kernel
theorem dX8_digest_7 : decode cX8_digest 7 = .ok (.iconst 0, 1) := by decide +kernel
theorem dX8_digest_8 : decode cX8_digest 8 = .ok (.istore_n 1, 1) := by decide +kernel
theorem dX8_digest_9 : decode cX8_digest 9 = .ok (.iload_n 1, 1) := by decide +kernel
theorem dX8_digest_10 : decode cX8_digest 10 = .ok (.bipush 10, 2) := by decide +kernel
theorem dX8_digest_12 : decode cX8_digest 12 = .ok (.if_icmp .ge 19, 3) := by decide +kernel
theorem dX8_digest_15 : decode cX8_digest 15 = .ok (.aload_n 0, 1) := by decide +kernel
theorem dX8_digest_16 : decode cX8_digest 16 = .ok (.aload_n 0, 1) := by decide +kernel
theorem dX8_digest_17 : decode cX8_digest 17 = .ok (.iload_n 1, 1) := by decide +kernel
theorem dX8_digest_18 : decode cX8_digest 18 = .ok (.invokevirtual 205, 3) := by decide +kernel
theorem dX8_digest_21 : decode cX8_digest 21 = .ok (.i2l, 1) := by decide +kernel
theorem dX8_digest_22 : decode cX8_digest 22 = .ok (.invokevirtual 260, 3) := by decide +kernel
theorem dX8_digest_25 : decode cX8_digest 25 = .ok (.iinc 1 1, 3) := by decide +kernel
theorem dX8_digest_28 : decode cX8_digest 28 = .ok (.goto (-19), 3) := by decide +kernel
theorem dX8_digest_31 : decode cX8_digest 31 = .ok (.iconst 1, 1) := by decide +kernel
theorem dX8_digest_32 : decode cX8_digest 32 = .ok (.istore_n 1, 1) := by decide +kernel
theorem dX8_digest_33 : decode cX8_digest 33 = .ok (.iload_n 1, 1) := by decide +kernel
theorem dX8_digest_34 : decode cX8_digest 34 = .ok (.bipush 10, 2) := by decide +kernel
theorem dX8_digest_36 : decode cX8_digest 36 = .ok (.if_icmp .ge 20, 3) := by decide +kernel
theorem dX8_digest_39 : decode cX8_digest 39 = .ok (.aload_n 0, 1) := by decide +kernel
theorem dX8_digest_40 : decode cX8_digest 40 = .ok (.aload_n 0, 1) := by decide +kernel
theorem dX8_digest_41 : decode cX8_digest 41 = .ok (.getfield 22, 3) := by decide +kernel
theorem dX8_digest_44 : decode cX8_digest 44 = .ok (.iload_n 1, 1) := by decide +kernel
theorem dX8_digest_45 : decode cX8_digest 45 = .ok (.iaload, 1) := by decide +kernel
theorem dX8_digest_46 : decode cX8_digest 46 = .ok (.i2l, 1) := by decide +kernel
theorem dX8_digest_47 : decode cX8_digest 47 = .ok (.invokevirtual 260, 3) := by decide +kernel
theorem dX8_digest_50 : decode cX8_digest 50 = .ok (.iinc 1 1, 3) := by decide +kernel
theorem dX8_digest_53 : decode cX8_digest 53 = .ok (.goto (-20), 3) := by decide +kernel
theorem dX8_digest_56 : decode cX8_digest 56 = .ok (.iconst 0, 1) := by decide +kernel
theorem dX8_digest_57 : decode cX8_digest 57 = .ok (.istore_n 1, 1) := by decide +kernel
theorem dX8_digest_58 : decode cX8_digest 58 = .ok (.iload_n 1, 1) := by decide +kernel
theorem dX8_digest_59 : decode cX8_digest 59 = .ok (.bipush 6, 2) := by decide +kernel
theorem dX8_digest_61 : decode cX8_digest 61 = .ok (.if_icmp .ge 33, 3) := by decide +kernel
theorem dX8_digest_64 : decode cX8_digest 64 = .ok (.iconst 0, 1) := by decide +kernel
theorem dX8_digest_65 : decode cX8_digest 65 = .ok (.istore_n 2, 1) := by decide +kernel
theorem dX8_digest_66 : decode cX8_digest 66 = .ok (.iload_n 2, 1) := by decide +kernel
theorem dX8_digest_67 : decode cX8_digest 67 = .ok (.iconst 3, 1) := by decide +kernel
theorem dX8_digest_68 : decode cX8_digest 68 = .ok (.if_icmp .ge 20, 3) := by decide +kernel
theorem dX8_digest_71 : decode cX8_digest 71 = .ok (.aload_n 0, 1) := by decide +kernel
theorem dX8_digest_72 : decode cX8_digest 72 = .ok (.aload_n 0, 1) := by decide +kernel
theorem dX8_digest_73 : decode cX8_digest 73 = .ok (.iload_n 1, 1) := by decide +kernel
theorem dX8_digest_74 : decode cX8_digest 74 = .ok (.iload_n 2, 1) := by decide +kernel
theorem dX8_digest_75 : decode cX8_digest 75 = .ok (.invokevirtual 177, 3) := by decide +kernel
theorem dX8_digest_78 : decode cX8_digest 78 = .ok (.i2l, 1) := by decide +kernel
theorem dX8_digest_79 : decode cX8_digest 79 = .ok (.invokevirtual 260, 3) := by decide +kernel
theorem dX8_digest_82 : decode cX8_digest 82 = .ok (.iinc 2 1, 3) := by decide +kernel
theorem dX8_digest_85 : decode cX8_digest 85 = .ok (.goto (-19), 3) := by decide +kernel
theorem dX8_digest_88 : decode cX8_digest 88 = .ok (.iinc 1 1, 3) := by decide +kernel
theorem dX8_digest_91 : decode cX8_digest 91 = .ok (.goto (-33), 3) := by decide +kernel
theorem dX8_digest_94 : decode cX8_digest 94 = .ok (.iconst 0, 1) := by decide +kernel
theorem dX8_digest_95 : decode cX8_digest 95 = .ok (.istore_n 1, 1) := by decide +kernel
theorem dX8_digest_96 : decode cX8_digest 96 = .ok (.iload_n 1, 1) := by decide +kernel
theorem dX8_digest_97 : decode cX8_digest 97 = .ok (.aload_n 0, 1) := by decide +kernel
theorem dX8_digest_98 : decode cX8_digest 98 = .ok (.getfield 7, 3) := by decide +kernel
theorem dX8_digest_101 : decode cX8_digest 101 = .ok (.iconst 0, 1) := by decide +kernel
theorem dX8_digest_102 : decode cX8_digest 102 = .ok (.iaload, 1) := by decide +kernel
theorem dX8_digest_103 : decode cX8_digest 103 = .ok (.if_icmp .ge 65, 3) := by decide +kernel
theorem dX8_digest_106 : decode cX8_digest 106 = .ok (.iconst 0, 1) := by decide +kernel
theorem dX8_digest_107 : decode cX8_digest 107 = .ok (.istore_n 2, 1) := by decide +kernel
theorem dX8_digest_108 : decode cX8_digest 108 = .ok (.iload_n 2, 1) := by decide +kernel
theorem dX8_digest_109 : decode cX8_digest 109 = .ok (.iconst 5, 1) := by decide +kernel
theorem dX8_digest_110 : decode cX8_digest 110 = .ok (.if_icmp .ge 20, 3) := by decide +kernel
theorem dX8_digest_113 : decode cX8_digest 113 = .ok (.aload_n 0, 1) := by decide +kernel
theorem dX8_digest_114 : decode cX8_digest 114 = .ok (.aload_n 0, 1) := by decide +kernel
theorem dX8_digest_115 : decode cX8_digest 115 = .ok (.iload_n 1, 1) := by decide +kernel
theorem dX8_digest_116 : decode cX8_digest 116 = .ok (.iload_n 2, 1) := by decide +kernel
theorem dX8_digest_117 : decode cX8_digest 117 = .ok (.invokevirtual 190, 3) := by decide +kernel
theorem dX8_digest_120 : decode cX8_digest 120 = .ok (.i2l, 1) := by decide +kernel
theorem dX8_digest_121 : decode cX8_digest 121 = .ok (.invokevirtual 260, 3) := by decide +kernel
theorem dX8_digest_124 : decode cX8_digest 124 = .ok (.iinc 2 1, 3) := by decide +kernel
theorem dX8_digest_127 : decode cX8_digest 127 = .ok (.goto (-19), 3) := by decide +kernel
theorem dX8_digest_130 : decode cX8_digest 130 = .ok (.iconst 0, 1) := by decide +kernel
theorem dX8_digest_131 : decode cX8_digest 131 = .ok (.istore_n 2, 1) := by decide +kernel
theorem dX8_digest_132 : decode cX8_digest 132 = .ok (.iload_n 2, 1) := by decide +kernel
theorem dX8_digest_133 : decode cX8_digest 133 = .ok (.aload_n 0, 1) := by decide +kernel
theorem dX8_digest_134 : decode cX8_digest 134 = .ok (.iload_n 1, 1) := by decide +kernel
theorem dX8_digest_135 : decode cX8_digest 135 = .ok (.invokevirtual 68, 3) := by decide +kernel
theorem dX8_digest_138 : decode cX8_digest 138 = .ok (.if_icmp .ge 24, 3) := by decide +kernel
theorem dX8_digest_141 : decode cX8_digest 141 = .ok (.aload_n 0, 1) := by decide +kernel
theorem dX8_digest_142 : decode cX8_digest 142 = .ok (.aload_n 0, 1) := by decide +kernel
theorem dX8_digest_143 : decode cX8_digest 143 = .ok (.getfield 7, 3) := by decide +kernel
theorem dX8_digest_146 : decode cX8_digest 146 = .ok (.iload_n 1, 1) := by decide +kernel
theorem dX8_digest_147 : decode cX8_digest 147 = .ok (.iload_n 2, 1) := by decide +kernel
theorem dX8_digest_148 : decode cX8_digest 148 = .ok (.invokestatic 81, 3) := by decide +kernel
theorem dX8_digest_151 : decode cX8_digest 151 = .ok (.iaload, 1) := by decide +kernel
theorem dX8_digest_152 : decode cX8_digest 152 = .ok (.i2l, 1) := by decide +kernel
theorem dX8_digest_153 : decode cX8_digest 153 = .ok (.invokevirtual 260, 3) := by decide +kernel
theorem dX8_digest_156 : decode cX8_digest 156 = .ok (.iinc 2 1, 3) := by decide +kernel
theorem dX8_digest_159 : decode cX8_digest 159 = .ok (.goto (-27), 3) := by decide +kernel
theorem dX8_digest_162 : decode cX8_digest 162 = .ok (.iinc 1 1, 3) := by decide +kernel
theorem dX8_digest_165 : decode cX8_digest 165 = .ok (.goto (-69), 3) := by decide +kernel
theorem dX8_digest_168 : decode cX8_digest 168 = .ok (.iconst 0, 1) := by decide +kernel
theorem dX8_digest_169 : decode cX8_digest 169 = .ok (.istore_n 1, 1) := by decide +kernel
theorem dX8_digest_170 : decode cX8_digest 170 = .ok (.iload_n 1, 1) := by decide +kernel
theorem dX8_digest_171 : decode cX8_digest 171 = .ok (.aload_n 0, 1) := by decide +kernel
theorem dX8_digest_172 : decode cX8_digest 172 = .ok (.getfield 7, 3) := by decide +kernel
theorem dX8_digest_175 : decode cX8_digest 175 = .ok (.sipush 170, 3) := by decide +kernel
theorem dX8_digest_178 : decode cX8_digest 178 = .ok (.iaload, 1) := by decide +kernel
theorem dX8_digest_179 : decode cX8_digest 179 = .ok (.if_icmp .ge 14, 3) := by decide +kernel
theorem dX8_digest_182 : decode cX8_digest 182 = .ok (.aload_n 0, 1) := by decide +kernel
theorem dX8_digest_183 : decode cX8_digest 183 = .ok (.iload_n 1, 1) := by decide +kernel
theorem dX8_digest_184 : decode cX8_digest 184 = .ok (.invokevirtual 266, 3) := by decide +kernel
theorem dX8_digest_187 : decode cX8_digest 187 = .ok (.iinc 1 1, 3) := by decide +kernel
theorem dX8_digest_190 : decode cX8_digest 190 = .ok (.goto (-20), 3) := by decide +kernel
theorem dX8_digest_193 : decode cX8_digest 193 = .ok (.aload_n 0, 1) := by decide +kernel
theorem dX8_digest_194 : decode cX8_digest 194 = .ok (.getfield 256, 3) := by decide +kernel
theorem dX8_digest_197 : decode cX8_digest 197 = .ok (.lreturn, 1) := by decide +kernel
theorem dJ9_floorMod_7cf53_0 : decode cJ9_floorMod_7cf53 0 = .ok (.iload_n 0, 1) := by decide +kernel
theorem dJ9_floorMod_7cf53_1 : decode cJ9_floorMod_7cf53 1 = .ok (.iload_n 1, 1) := by decide +kernel
theorem dJ9_floorMod_7cf53_2 : decode cJ9_floorMod_7cf53 2 = .ok (.irem, 1) := by decide +kernel
theorem dJ9_floorMod_7cf53_3 : decode cJ9_floorMod_7cf53 3 = .ok (.istore_n 2, 1) := by decide +kernel
theorem dJ9_floorMod_7cf53_4 : decode cJ9_floorMod_7cf53 4 = .ok (.iload_n 0, 1) := by decide +kernel
theorem dJ9_floorMod_7cf53_5 : decode cJ9_floorMod_7cf53 5 = .ok (.iload_n 1, 1) := by decide +kernel
theorem dJ9_floorMod_7cf53_6 : decode cJ9_floorMod_7cf53 6 = .ok (.ixor, 1) := by decide +kernel
theorem dJ9_floorMod_7cf53_7 : decode cJ9_floorMod_7cf53 7 = .ok (.ifCond .ge 11, 3) := by decide +kernel
theorem dJ9_floorMod_7cf53_10 : decode cJ9_floorMod_7cf53 10 = .ok (.iload_n 2, 1) := by decide +kernel
theorem dJ9_floorMod_7cf53_11 : decode cJ9_floorMod_7cf53 11 = .ok (.ifCond .eq 7, 3) := by decide +kernel
theorem dJ9_floorMod_7cf53_14 : decode cJ9_floorMod_7cf53 14 = .ok (.iload_n 2, 1) := by decide +kernel
theorem dJ9_floorMod_7cf53_15 : decode cJ9_floorMod_7cf53 15 = .ok (.iload_n 1, 1) := by decide +kernel
theorem dJ9_floorMod_7cf53_16 : decode cJ9_floorMod_7cf53 16 = .ok (.iadd, 1) := by decide +kernel
theorem dJ9_floorMod_7cf53_17 : decode cJ9_floorMod_7cf53 17 = .ok (.ireturn, 1) := by decide +kernel
theorem dJ9_floorMod_7cf53_18 : decode cJ9_floorMod_7cf53 18 = .ok (.iload_n 2, 1) := by decide +kernel
theorem dJ9_floorMod_7cf53_19 : decode cJ9_floorMod_7cf53 19 = .ok (.ireturn, 1) := by decide +kernel
theorem dL_law_0 : decode cL_law 0 = .ok (.new 7, 3) := by decide +kernel
theorem dL_law_3 : decode cL_law 3 = .ok (.dup, 1) := by decide +kernel
theorem dL_law_4 : decode cL_law 4 = .ok (.invokespecial 9, 3) := by decide +kernel
theorem dL_law_7 : decode cL_law 7 = .ok (.astore_n 1, 1) := by decide +kernel
theorem dL_law_8 : decode cL_law 8 = .ok (.new 10, 3) := by decide +kernel
theorem dL_law_11 : decode cL_law 11 = .ok (.dup, 1) := by decide +kernel
theorem dL_law_12 : decode cL_law 12 = .ok (.invokespecial 12, 3) := by decide +kernel
theorem dL_law_15 : decode cL_law 15 = .ok (.astore_n 2, 1) := by decide +kernel
theorem dL_law_16 : decode cL_law 16 = .ok (.iconst 0, 1) := by decide +kernel
theorem dL_law_17 : decode cL_law 17 = .ok (.istore_n 3, 1) := by decide +kernel
theorem dL_law_18 : decode cL_law 18 = .ok (.iload_n 3, 1) := by decide +kernel
theorem dL_law_19 : decode cL_law 19 = .ok (.aload_n 0, 1) := by decide +kernel
theorem dL_law_20 : decode cL_law 20 = .ok (.arraylength, 1) := by decide +kernel
theorem dL_law_21 : decode cL_law 21 = .ok (.iconst 4, 1) := by decide +kernel
theorem dL_law_22 : decode cL_law 22 = .ok (.isub, 1) := by decide +kernel
theorem dL_law_23 : decode cL_law 23 = .ok (.if_icmp .gt 837, 3) := by decide +kernel
theorem dL_law_26 : decode cL_law 26 = .ok (.aload_n 0, 1) := by decide +kernel
theorem dL_law_27 : decode cL_law 27 = .ok (.iload_n 3, 1) := by decide +kernel
theorem dL_law_28 : decode cL_law 28 = .ok (.iaload, 1) := by decide +kernel
theorem dL_law_29 : decode cL_law 29 = .ok (.bipush 31, 2) := by decide +kernel
theorem dL_law_31 : decode cL_law 31 = .ok (.iand, 1) := by decide +kernel
theorem dL_law_32 : decode cL_law 32 = .ok (.tableswitch 822 0 24 #[116, 149, 172, 205, 238, 271, 314, 357, 390, 433, 456, 479, 502, 535, 568, 601, 634, 677, 700, 723, 746, 769, 782, 795, 808], 116) := by decide +kernel
theorem dL_law_148 : decode cL_law 148 = .ok (.aload_n 1, 1) := by decide +kernel
theorem dL_law_149 : decode cL_law 149 = .ok (.aload_n 0, 1) := by decide +kernel
theorem dL_law_150 : decode cL_law 150 = .ok (.iload_n 3, 1) := by decide +kernel
theorem dL_law_151 : decode cL_law 151 = .ok (.iconst 1, 1) := by decide +kernel
theorem dL_law_152 : decode cL_law 152 = .ok (.iadd, 1) := by decide +kernel
theorem dL_law_153 : decode cL_law 153 = .ok (.iaload, 1) := by decide +kernel
theorem dL_law_154 : decode cL_law 154 = .ok (.aload_n 0, 1) := by decide +kernel
theorem dL_law_155 : decode cL_law 155 = .ok (.iload_n 3, 1) := by decide +kernel
theorem dL_law_156 : decode cL_law 156 = .ok (.iconst 2, 1) := by decide +kernel
theorem dL_law_157 : decode cL_law 157 = .ok (.iadd, 1) := by decide +kernel
theorem dL_law_158 : decode cL_law 158 = .ok (.iaload, 1) := by decide +kernel
theorem dL_law_159 : decode cL_law 159 = .ok (.invokevirtual 13, 3) := by decide +kernel
theorem dL_law_162 : decode cL_law 162 = .ok (.aload_n 2, 1) := by decide +kernel
theorem dL_law_163 : decode cL_law 163 = .ok (.aload_n 0, 1) := by decide +kernel
theorem dL_law_164 : decode cL_law 164 = .ok (.iload_n 3, 1) := by decide +kernel
theorem dL_law_165 : decode cL_law 165 = .ok (.iconst 1, 1) := by decide +kernel
theorem dL_law_166 : decode cL_law 166 = .ok (.iadd, 1) := by decide +kernel
theorem dL_law_167 : decode cL_law 167 = .ok (.iaload, 1) := by decide +kernel
theorem dL_law_168 : decode cL_law 168 = .ok (.aload_n 0, 1) := by decide +kernel
theorem dL_law_169 : decode cL_law 169 = .ok (.iload_n 3, 1) := by decide +kernel
theorem dL_law_170 : decode cL_law 170 = .ok (.iconst 2, 1) := by decide +kernel
theorem dL_law_171 : decode cL_law 171 = .ok (.iadd, 1) := by decide +kernel
theorem dL_law_172 : decode cL_law 172 = .ok (.iaload, 1) := by decide +kernel
theorem dL_law_173 : decode cL_law 173 = .ok (.invokevirtual 17, 3) := by decide +kernel
theorem dL_law_176 : decode cL_law 176 = .ok (.if_icmp .eq 678, 3) := by decide +kernel
theorem dL_law_179 : decode cL_law 179 = .ok (.iconst 0, 1) := by decide +kernel
theorem dL_law_180 : decode cL_law 180 = .ok (.ireturn, 1) := by decide +kernel
theorem dL_law_181 : decode cL_law 181 = .ok (.aload_n 1, 1) := by decide +kernel
theorem dL_law_182 : decode cL_law 182 = .ok (.aload_n 0, 1) := by decide +kernel
theorem dL_law_183 : decode cL_law 183 = .ok (.iload_n 3, 1) := by decide +kernel
theorem dL_law_184 : decode cL_law 184 = .ok (.iconst 1, 1) := by decide +kernel
theorem dL_law_185 : decode cL_law 185 = .ok (.iadd, 1) := by decide +kernel
theorem dL_law_186 : decode cL_law 186 = .ok (.iaload, 1) := by decide +kernel
theorem dL_law_187 : decode cL_law 187 = .ok (.invokevirtual 18, 3) := by decide +kernel
theorem dL_law_190 : decode cL_law 190 = .ok (.aload_n 2, 1) := by decide +kernel
theorem dL_law_191 : decode cL_law 191 = .ok (.aload_n 0, 1) := by decide +kernel
theorem dL_law_192 : decode cL_law 192 = .ok (.iload_n 3, 1) := by decide +kernel
theorem dL_law_193 : decode cL_law 193 = .ok (.iconst 1, 1) := by decide +kernel
theorem dL_law_194 : decode cL_law 194 = .ok (.iadd, 1) := by decide +kernel
theorem dL_law_195 : decode cL_law 195 = .ok (.iaload, 1) := by decide +kernel
theorem dL_law_196 : decode cL_law 196 = .ok (.invokevirtual 22, 3) := by decide +kernel
theorem dL_law_199 : decode cL_law 199 = .ok (.if_icmp .eq 655, 3) := by decide +kernel
theorem dL_law_202 : decode cL_law 202 = .ok (.iconst 0, 1) := by decide +kernel
theorem dL_law_203 : decode cL_law 203 = .ok (.ireturn, 1) := by decide +kernel
theorem dL_law_204 : decode cL_law 204 = .ok (.aload_n 1, 1) := by decide +kernel
theorem dL_law_205 : decode cL_law 205 = .ok (.aload_n 0, 1) := by decide +kernel
theorem dL_law_206 : decode cL_law 206 = .ok (.iload_n 3, 1) := by decide +kernel
theorem dL_law_207 : decode cL_law 207 = .ok (.iconst 1, 1) := by decide +kernel
theorem dL_law_208 : decode cL_law 208 = .ok (.iadd, 1) := by decide +kernel
theorem dL_law_209 : decode cL_law 209 = .ok (.iaload, 1) := by decide +kernel
theorem dL_law_210 : decode cL_law 210 = .ok (.aload_n 0, 1) := by decide +kernel
theorem dL_law_211 : decode cL_law 211 = .ok (.iload_n 3, 1) := by decide +kernel
theorem dL_law_212 : decode cL_law 212 = .ok (.iconst 2, 1) := by decide +kernel
theorem dL_law_213 : decode cL_law 213 = .ok (.iadd, 1) := by decide +kernel
theorem dL_law_214 : decode cL_law 214 = .ok (.iaload, 1) := by decide +kernel
theorem dL_law_215 : decode cL_law 215 = .ok (.invokevirtual 23, 3) := by decide +kernel
theorem dL_law_218 : decode cL_law 218 = .ok (.aload_n 2, 1) := by decide +kernel
theorem dL_law_219 : decode cL_law 219 = .ok (.aload_n 0, 1) := by decide +kernel
theorem dL_law_220 : decode cL_law 220 = .ok (.iload_n 3, 1) := by decide +kernel
theorem dL_law_221 : decode cL_law 221 = .ok (.iconst 1, 1) := by decide +kernel
theorem dL_law_222 : decode cL_law 222 = .ok (.iadd, 1) := by decide +kernel
theorem dL_law_223 : decode cL_law 223 = .ok (.iaload, 1) := by decide +kernel
theorem dL_law_224 : decode cL_law 224 = .ok (.aload_n 0, 1) := by decide +kernel
theorem dL_law_225 : decode cL_law 225 = .ok (.iload_n 3, 1) := by decide +kernel
theorem dL_law_226 : decode cL_law 226 = .ok (.iconst 2, 1) := by decide +kernel
theorem dL_law_227 : decode cL_law 227 = .ok (.iadd, 1) := by decide +kernel
theorem dL_law_228 : decode cL_law 228 = .ok (.iaload, 1) := by decide +kernel
theorem dL_law_229 : decode cL_law 229 = .ok (.invokevirtual 26, 3) := by decide +kernel
theorem dL_law_232 : decode cL_law 232 = .ok (.if_icmp .eq 622, 3) := by decide +kernel
theorem dL_law_235 : decode cL_law 235 = .ok (.iconst 0, 1) := by decide +kernel
theorem dL_law_236 : decode cL_law 236 = .ok (.ireturn, 1) := by decide +kernel
theorem dL_law_237 : decode cL_law 237 = .ok (.aload_n 1, 1) := by decide +kernel
theorem dL_law_238 : decode cL_law 238 = .ok (.aload_n 0, 1) := by decide +kernel
theorem dL_law_239 : decode cL_law 239 = .ok (.iload_n 3, 1) := by decide +kernel
theorem dL_law_240 : decode cL_law 240 = .ok (.iconst 1, 1) := by decide +kernel
theorem dL_law_241 : decode cL_law 241 = .ok (.iadd, 1) := by decide +kernel
theorem dL_law_242 : decode cL_law 242 = .ok (.iaload, 1) := by decide +kernel
theorem dL_law_243 : decode cL_law 243 = .ok (.aload_n 0, 1) := by decide +kernel
theorem dL_law_244 : decode cL_law 244 = .ok (.iload_n 3, 1) := by decide +kernel
theorem dL_law_245 : decode cL_law 245 = .ok (.iconst 2, 1) := by decide +kernel
theorem dL_law_246 : decode cL_law 246 = .ok (.iadd, 1) := by decide +kernel
theorem dL_law_247 : decode cL_law 247 = .ok (.iaload, 1) := by decide +kernel
theorem dL_law_248 : decode cL_law 248 = .ok (.invokevirtual 27, 3) := by decide +kernel
theorem dL_law_251 : decode cL_law 251 = .ok (.aload_n 2, 1) := by decide +kernel
theorem dL_law_252 : decode cL_law 252 = .ok (.aload_n 0, 1) := by decide +kernel
theorem dL_law_253 : decode cL_law 253 = .ok (.iload_n 3, 1) := by decide +kernel
theorem dL_law_254 : decode cL_law 254 = .ok (.iconst 1, 1) := by decide +kernel
theorem dL_law_255 : decode cL_law 255 = .ok (.iadd, 1) := by decide +kernel
theorem dL_law_256 : decode cL_law 256 = .ok (.iaload, 1) := by decide +kernel
theorem dL_law_257 : decode cL_law 257 = .ok (.aload_n 0, 1) := by decide +kernel
theorem dL_law_258 : decode cL_law 258 = .ok (.iload_n 3, 1) := by decide +kernel
theorem dL_law_259 : decode cL_law 259 = .ok (.iconst 2, 1) := by decide +kernel
theorem dL_law_260 : decode cL_law 260 = .ok (.iadd, 1) := by decide +kernel
theorem dL_law_261 : decode cL_law 261 = .ok (.iaload, 1) := by decide +kernel
theorem dL_law_262 : decode cL_law 262 = .ok (.invokevirtual 30, 3) := by decide +kernel
theorem dL_law_265 : decode cL_law 265 = .ok (.if_icmp .eq 589, 3) := by decide +kernel
theorem dL_law_268 : decode cL_law 268 = .ok (.iconst 0, 1) := by decide +kernel
theorem dL_law_269 : decode cL_law 269 = .ok (.ireturn, 1) := by decide +kernel
theorem dL_law_270 : decode cL_law 270 = .ok (.aload_n 1, 1) := by decide +kernel
theorem dL_law_271 : decode cL_law 271 = .ok (.aload_n 0, 1) := by decide +kernel
theorem dL_law_272 : decode cL_law 272 = .ok (.iload_n 3, 1) := by decide +kernel
theorem dL_law_273 : decode cL_law 273 = .ok (.iconst 1, 1) := by decide +kernel
theorem dL_law_274 : decode cL_law 274 = .ok (.iadd, 1) := by decide +kernel
theorem dL_law_275 : decode cL_law 275 = .ok (.iaload, 1) := by decide +kernel
theorem dL_law_276 : decode cL_law 276 = .ok (.aload_n 0, 1) := by decide +kernel
theorem dL_law_277 : decode cL_law 277 = .ok (.iload_n 3, 1) := by decide +kernel
theorem dL_law_278 : decode cL_law 278 = .ok (.iconst 2, 1) := by decide +kernel
theorem dL_law_279 : decode cL_law 279 = .ok (.iadd, 1) := by decide +kernel
theorem dL_law_280 : decode cL_law 280 = .ok (.iaload, 1) := by decide +kernel
theorem dL_law_281 : decode cL_law 281 = .ok (.invokevirtual 31, 3) := by decide +kernel
theorem dL_law_284 : decode cL_law 284 = .ok (.aload_n 2, 1) := by decide +kernel
theorem dL_law_285 : decode cL_law 285 = .ok (.aload_n 0, 1) := by decide +kernel
theorem dL_law_286 : decode cL_law 286 = .ok (.iload_n 3, 1) := by decide +kernel
theorem dL_law_287 : decode cL_law 287 = .ok (.iconst 1, 1) := by decide +kernel
theorem dL_law_288 : decode cL_law 288 = .ok (.iadd, 1) := by decide +kernel
theorem dL_law_289 : decode cL_law 289 = .ok (.iaload, 1) := by decide +kernel
theorem dL_law_290 : decode cL_law 290 = .ok (.aload_n 0, 1) := by decide +kernel
theorem dL_law_291 : decode cL_law 291 = .ok (.iload_n 3, 1) := by decide +kernel
theorem dL_law_292 : decode cL_law 292 = .ok (.iconst 2, 1) := by decide +kernel
theorem dL_law_293 : decode cL_law 293 = .ok (.iadd, 1) := by decide +kernel
theorem dL_law_294 : decode cL_law 294 = .ok (.iaload, 1) := by decide +kernel
theorem dL_law_295 : decode cL_law 295 = .ok (.invokevirtual 34, 3) := by decide +kernel
theorem dL_law_298 : decode cL_law 298 = .ok (.if_icmp .eq 556, 3) := by decide +kernel
theorem dL_law_301 : decode cL_law 301 = .ok (.iconst 0, 1) := by decide +kernel
theorem dL_law_302 : decode cL_law 302 = .ok (.ireturn, 1) := by decide +kernel
theorem dL_law_303 : decode cL_law 303 = .ok (.aload_n 1, 1) := by decide +kernel
theorem dL_law_304 : decode cL_law 304 = .ok (.aload_n 0, 1) := by decide +kernel
theorem dL_law_305 : decode cL_law 305 = .ok (.iload_n 3, 1) := by decide +kernel
theorem dL_law_306 : decode cL_law 306 = .ok (.iconst 1, 1) := by decide +kernel
theorem dL_law_307 : decode cL_law 307 = .ok (.iadd, 1) := by decide +kernel
theorem dL_law_308 : decode cL_law 308 = .ok (.iaload, 1) := by decide +kernel
theorem dL_law_309 : decode cL_law 309 = .ok (.aload_n 0, 1) := by decide +kernel
theorem dL_law_310 : decode cL_law 310 = .ok (.iload_n 3, 1) := by decide +kernel
theorem dL_law_311 : decode cL_law 311 = .ok (.iconst 2, 1) := by decide +kernel
theorem dL_law_312 : decode cL_law 312 = .ok (.iadd, 1) := by decide +kernel
theorem dL_law_313 : decode cL_law 313 = .ok (.iaload, 1) := by decide +kernel
theorem dL_law_314 : decode cL_law 314 = .ok (.aload_n 0, 1) := by decide +kernel
theorem dL_law_315 : decode cL_law 315 = .ok (.iload_n 3, 1) := by decide +kernel
theorem dL_law_316 : decode cL_law 316 = .ok (.iconst 3, 1) := by decide +kernel
theorem dL_law_317 : decode cL_law 317 = .ok (.iadd, 1) := by decide +kernel
theorem dL_law_318 : decode cL_law 318 = .ok (.iaload, 1) := by decide +kernel
theorem dL_law_319 : decode cL_law 319 = .ok (.invokevirtual 35, 3) := by decide +kernel
theorem dL_law_322 : decode cL_law 322 = .ok (.aload_n 2, 1) := by decide +kernel
theorem dL_law_323 : decode cL_law 323 = .ok (.aload_n 0, 1) := by decide +kernel
theorem dL_law_324 : decode cL_law 324 = .ok (.iload_n 3, 1) := by decide +kernel
theorem dL_law_325 : decode cL_law 325 = .ok (.iconst 1, 1) := by decide +kernel
theorem dL_law_326 : decode cL_law 326 = .ok (.iadd, 1) := by decide +kernel
theorem dL_law_327 : decode cL_law 327 = .ok (.iaload, 1) := by decide +kernel
theorem dL_law_328 : decode cL_law 328 = .ok (.aload_n 0, 1) := by decide +kernel
theorem dL_law_329 : decode cL_law 329 = .ok (.iload_n 3, 1) := by decide +kernel
theorem dL_law_330 : decode cL_law 330 = .ok (.iconst 2, 1) := by decide +kernel
theorem dL_law_331 : decode cL_law 331 = .ok (.iadd, 1) := by decide +kernel
theorem dL_law_332 : decode cL_law 332 = .ok (.iaload, 1) := by decide +kernel
theorem dL_law_333 : decode cL_law 333 = .ok (.aload_n 0, 1) := by decide +kernel
theorem dL_law_334 : decode cL_law 334 = .ok (.iload_n 3, 1) := by decide +kernel
theorem dL_law_335 : decode cL_law 335 = .ok (.iconst 3, 1) := by decide +kernel
theorem dL_law_336 : decode cL_law 336 = .ok (.iadd, 1) := by decide +kernel
theorem dL_law_337 : decode cL_law 337 = .ok (.iaload, 1) := by decide +kernel
theorem dL_law_338 : decode cL_law 338 = .ok (.invokevirtual 39, 3) := by decide +kernel
theorem dL_law_341 : decode cL_law 341 = .ok (.if_icmp .eq 513, 3) := by decide +kernel
theorem dL_law_344 : decode cL_law 344 = .ok (.iconst 0, 1) := by decide +kernel
theorem dL_law_345 : decode cL_law 345 = .ok (.ireturn, 1) := by decide +kernel
theorem dL_law_346 : decode cL_law 346 = .ok (.aload_n 1, 1) := by decide +kernel
theorem dL_law_347 : decode cL_law 347 = .ok (.aload_n 0, 1) := by decide +kernel
theorem dL_law_348 : decode cL_law 348 = .ok (.iload_n 3, 1) := by decide +kernel
theorem dL_law_349 : decode cL_law 349 = .ok (.iconst 1, 1) := by decide +kernel
theorem dL_law_350 : decode cL_law 350 = .ok (.iadd, 1) := by decide +kernel
theorem dL_law_351 : decode cL_law 351 = .ok (.iaload, 1) := by decide +kernel
theorem dL_law_352 : decode cL_law 352 = .ok (.aload_n 0, 1) := by decide +kernel
theorem dL_law_353 : decode cL_law 353 = .ok (.iload_n 3, 1) := by decide +kernel
theorem dL_law_354 : decode cL_law 354 = .ok (.iconst 2, 1) := by decide +kernel
theorem dL_law_355 : decode cL_law 355 = .ok (.iadd, 1) := by decide +kernel
theorem dL_law_356 : decode cL_law 356 = .ok (.iaload, 1) := by decide +kernel
theorem dL_law_357 : decode cL_law 357 = .ok (.aload_n 0, 1) := by decide +kernel
theorem dL_law_358 : decode cL_law 358 = .ok (.iload_n 3, 1) := by decide +kernel
theorem dL_law_359 : decode cL_law 359 = .ok (.iconst 3, 1) := by decide +kernel
theorem dL_law_360 : decode cL_law 360 = .ok (.iadd, 1) := by decide +kernel
theorem dL_law_361 : decode cL_law 361 = .ok (.iaload, 1) := by decide +kernel
theorem dL_law_362 : decode cL_law 362 = .ok (.invokevirtual 40, 3) := by decide +kernel
theorem dL_law_365 : decode cL_law 365 = .ok (.aload_n 2, 1) := by decide +kernel
theorem dL_law_366 : decode cL_law 366 = .ok (.aload_n 0, 1) := by decide +kernel
theorem dL_law_367 : decode cL_law 367 = .ok (.iload_n 3, 1) := by decide +kernel
theorem dL_law_368 : decode cL_law 368 = .ok (.iconst 1, 1) := by decide +kernel
theorem dL_law_369 : decode cL_law 369 = .ok (.iadd, 1) := by decide +kernel
theorem dL_law_370 : decode cL_law 370 = .ok (.iaload, 1) := by decide +kernel
theorem dL_law_371 : decode cL_law 371 = .ok (.aload_n 0, 1) := by decide +kernel
theorem dL_law_372 : decode cL_law 372 = .ok (.iload_n 3, 1) := by decide +kernel
theorem dL_law_373 : decode cL_law 373 = .ok (.iconst 2, 1) := by decide +kernel
theorem dL_law_374 : decode cL_law 374 = .ok (.iadd, 1) := by decide +kernel
theorem dL_law_375 : decode cL_law 375 = .ok (.iaload, 1) := by decide +kernel
theorem dL_law_376 : decode cL_law 376 = .ok (.aload_n 0, 1) := by decide +kernel
theorem dL_law_377 : decode cL_law 377 = .ok (.iload_n 3, 1) := by decide +kernel
theorem dL_law_378 : decode cL_law 378 = .ok (.iconst 3, 1) := by decide +kernel
theorem dL_law_379 : decode cL_law 379 = .ok (.iadd, 1) := by decide +kernel
theorem dL_law_380 : decode cL_law 380 = .ok (.iaload, 1) := by decide +kernel
theorem dL_law_381 : decode cL_law 381 = .ok (.invokevirtual 43, 3) := by decide +kernel
theorem dL_law_384 : decode cL_law 384 = .ok (.if_icmp .eq 470, 3) := by decide +kernel
theorem dL_law_387 : decode cL_law 387 = .ok (.iconst 0, 1) := by decide +kernel
theorem dL_law_388 : decode cL_law 388 = .ok (.ireturn, 1) := by decide +kernel
theorem dL_law_389 : decode cL_law 389 = .ok (.aload_n 1, 1) := by decide +kernel
theorem dL_law_390 : decode cL_law 390 = .ok (.aload_n 0, 1) := by decide +kernel
theorem dL_law_391 : decode cL_law 391 = .ok (.iload_n 3, 1) := by decide +kernel
theorem dL_law_392 : decode cL_law 392 = .ok (.iconst 1, 1) := by decide +kernel
theorem dL_law_393 : decode cL_law 393 = .ok (.iadd, 1) := by decide +kernel
theorem dL_law_394 : decode cL_law 394 = .ok (.iaload, 1) := by decide +kernel
theorem dL_law_395 : decode cL_law 395 = .ok (.aload_n 0, 1) := by decide +kernel
theorem dL_law_396 : decode cL_law 396 = .ok (.iload_n 3, 1) := by decide +kernel
theorem dL_law_397 : decode cL_law 397 = .ok (.iconst 2, 1) := by decide +kernel
theorem dL_law_398 : decode cL_law 398 = .ok (.iadd, 1) := by decide +kernel
theorem dL_law_399 : decode cL_law 399 = .ok (.iaload, 1) := by decide +kernel
theorem dL_law_400 : decode cL_law 400 = .ok (.invokevirtual 44, 3) := by decide +kernel
theorem dL_law_403 : decode cL_law 403 = .ok (.aload_n 2, 1) := by decide +kernel
theorem dL_law_404 : decode cL_law 404 = .ok (.aload_n 0, 1) := by decide +kernel
theorem dL_law_405 : decode cL_law 405 = .ok (.iload_n 3, 1) := by decide +kernel
theorem dL_law_406 : decode cL_law 406 = .ok (.iconst 1, 1) := by decide +kernel
theorem dL_law_407 : decode cL_law 407 = .ok (.iadd, 1) := by decide +kernel
theorem dL_law_408 : decode cL_law 408 = .ok (.iaload, 1) := by decide +kernel
theorem dL_law_409 : decode cL_law 409 = .ok (.aload_n 0, 1) := by decide +kernel
theorem dL_law_410 : decode cL_law 410 = .ok (.iload_n 3, 1) := by decide +kernel
theorem dL_law_411 : decode cL_law 411 = .ok (.iconst 2, 1) := by decide +kernel
theorem dL_law_412 : decode cL_law 412 = .ok (.iadd, 1) := by decide +kernel
theorem dL_law_413 : decode cL_law 413 = .ok (.iaload, 1) := by decide +kernel
theorem dL_law_414 : decode cL_law 414 = .ok (.invokevirtual 47, 3) := by decide +kernel
theorem dL_law_417 : decode cL_law 417 = .ok (.if_icmp .eq 437, 3) := by decide +kernel
theorem dL_law_420 : decode cL_law 420 = .ok (.iconst 0, 1) := by decide +kernel
theorem dL_law_421 : decode cL_law 421 = .ok (.ireturn, 1) := by decide +kernel
theorem dL_law_422 : decode cL_law 422 = .ok (.aload_n 1, 1) := by decide +kernel
theorem dL_law_423 : decode cL_law 423 = .ok (.aload_n 0, 1) := by decide +kernel
theorem dL_law_424 : decode cL_law 424 = .ok (.iload_n 3, 1) := by decide +kernel
theorem dL_law_425 : decode cL_law 425 = .ok (.iconst 1, 1) := by decide +kernel
theorem dL_law_426 : decode cL_law 426 = .ok (.iadd, 1) := by decide +kernel
theorem dL_law_427 : decode cL_law 427 = .ok (.iaload, 1) := by decide +kernel
theorem dL_law_428 : decode cL_law 428 = .ok (.aload_n 0, 1) := by decide +kernel
theorem dL_law_429 : decode cL_law 429 = .ok (.iload_n 3, 1) := by decide +kernel
theorem dL_law_430 : decode cL_law 430 = .ok (.iconst 2, 1) := by decide +kernel
theorem dL_law_431 : decode cL_law 431 = .ok (.iadd, 1) := by decide +kernel
theorem dL_law_432 : decode cL_law 432 = .ok (.iaload, 1) := by decide +kernel
theorem dL_law_433 : decode cL_law 433 = .ok (.aload_n 0, 1) := by decide +kernel
theorem dL_law_434 : decode cL_law 434 = .ok (.iload_n 3, 1) := by decide +kernel
theorem dL_law_435 : decode cL_law 435 = .ok (.iconst 3, 1) := by decide +kernel
theorem dL_law_436 : decode cL_law 436 = .ok (.iadd, 1) := by decide +kernel
theorem dL_law_437 : decode cL_law 437 = .ok (.iaload, 1) := by decide +kernel
theorem dL_law_438 : decode cL_law 438 = .ok (.invokevirtual 48, 3) := by decide +kernel
theorem dL_law_441 : decode cL_law 441 = .ok (.aload_n 2, 1) := by decide +kernel
theorem dL_law_442 : decode cL_law 442 = .ok (.aload_n 0, 1) := by decide +kernel
theorem dL_law_443 : decode cL_law 443 = .ok (.iload_n 3, 1) := by decide +kernel
theorem dL_law_444 : decode cL_law 444 = .ok (.iconst 1, 1) := by decide +kernel
theorem dL_law_445 : decode cL_law 445 = .ok (.iadd, 1) := by decide +kernel
theorem dL_law_446 : decode cL_law 446 = .ok (.iaload, 1) := by decide +kernel
theorem dL_law_447 : decode cL_law 447 = .ok (.aload_n 0, 1) := by decide +kernel
theorem dL_law_448 : decode cL_law 448 = .ok (.iload_n 3, 1) := by decide +kernel
theorem dL_law_449 : decode cL_law 449 = .ok (.iconst 2, 1) := by decide +kernel
theorem dL_law_450 : decode cL_law 450 = .ok (.iadd, 1) := by decide +kernel
theorem dL_law_451 : decode cL_law 451 = .ok (.iaload, 1) := by decide +kernel
theorem dL_law_452 : decode cL_law 452 = .ok (.aload_n 0, 1) := by decide +kernel
theorem dL_law_453 : decode cL_law 453 = .ok (.iload_n 3, 1) := by decide +kernel
theorem dL_law_454 : decode cL_law 454 = .ok (.iconst 3, 1) := by decide +kernel
theorem dL_law_455 : decode cL_law 455 = .ok (.iadd, 1) := by decide +kernel
theorem dL_law_456 : decode cL_law 456 = .ok (.iaload, 1) := by decide +kernel
theorem dL_law_457 : decode cL_law 457 = .ok (.invokevirtual 51, 3) := by decide +kernel
theorem dL_law_460 : decode cL_law 460 = .ok (.if_icmp .eq 394, 3) := by decide +kernel
theorem dL_law_463 : decode cL_law 463 = .ok (.iconst 0, 1) := by decide +kernel
theorem dL_law_464 : decode cL_law 464 = .ok (.ireturn, 1) := by decide +kernel
theorem dL_law_465 : decode cL_law 465 = .ok (.aload_n 1, 1) := by decide +kernel
theorem dL_law_466 : decode cL_law 466 = .ok (.aload_n 0, 1) := by decide +kernel
theorem dL_law_467 : decode cL_law 467 = .ok (.iload_n 3, 1) := by decide +kernel
theorem dL_law_468 : decode cL_law 468 = .ok (.iconst 1, 1) := by decide +kernel
theorem dL_law_469 : decode cL_law 469 = .ok (.iadd, 1) := by decide +kernel
theorem dL_law_470 : decode cL_law 470 = .ok (.iaload, 1) := by decide +kernel
theorem dL_law_471 : decode cL_law 471 = .ok (.invokevirtual 52, 3) := by decide +kernel
theorem dL_law_474 : decode cL_law 474 = .ok (.aload_n 2, 1) := by decide +kernel
theorem dL_law_475 : decode cL_law 475 = .ok (.aload_n 0, 1) := by decide +kernel
theorem dL_law_476 : decode cL_law 476 = .ok (.iload_n 3, 1) := by decide +kernel
theorem dL_law_477 : decode cL_law 477 = .ok (.iconst 1, 1) := by decide +kernel
theorem dL_law_478 : decode cL_law 478 = .ok (.iadd, 1) := by decide +kernel
theorem dL_law_479 : decode cL_law 479 = .ok (.iaload, 1) := by decide +kernel
theorem dL_law_480 : decode cL_law 480 = .ok (.invokevirtual 55, 3) := by decide +kernel
theorem dL_law_483 : decode cL_law 483 = .ok (.if_icmp .eq 371, 3) := by decide +kernel
theorem dL_law_486 : decode cL_law 486 = .ok (.iconst 0, 1) := by decide +kernel
theorem dL_law_487 : decode cL_law 487 = .ok (.ireturn, 1) := by decide +kernel
theorem dL_law_488 : decode cL_law 488 = .ok (.aload_n 1, 1) := by decide +kernel
theorem dL_law_489 : decode cL_law 489 = .ok (.aload_n 0, 1) := by decide +kernel
theorem dL_law_490 : decode cL_law 490 = .ok (.iload_n 3, 1) := by decide +kernel
theorem dL_law_491 : decode cL_law 491 = .ok (.iconst 1, 1) := by decide +kernel
theorem dL_law_492 : decode cL_law 492 = .ok (.iadd, 1) := by decide +kernel
theorem dL_law_493 : decode cL_law 493 = .ok (.iaload, 1) := by decide +kernel
theorem dL_law_494 : decode cL_law 494 = .ok (.invokevirtual 56, 3) := by decide +kernel
theorem dL_law_497 : decode cL_law 497 = .ok (.aload_n 2, 1) := by decide +kernel
theorem dL_law_498 : decode cL_law 498 = .ok (.aload_n 0, 1) := by decide +kernel
theorem dL_law_499 : decode cL_law 499 = .ok (.iload_n 3, 1) := by decide +kernel
theorem dL_law_500 : decode cL_law 500 = .ok (.iconst 1, 1) := by decide +kernel
theorem dL_law_501 : decode cL_law 501 = .ok (.iadd, 1) := by decide +kernel
theorem dL_law_502 : decode cL_law 502 = .ok (.iaload, 1) := by decide +kernel
theorem dL_law_503 : decode cL_law 503 = .ok (.invokevirtual 59, 3) := by decide +kernel
theorem dL_law_506 : decode cL_law 506 = .ok (.if_icmp .eq 348, 3) := by decide +kernel
theorem dL_law_509 : decode cL_law 509 = .ok (.iconst 0, 1) := by decide +kernel
theorem dL_law_510 : decode cL_law 510 = .ok (.ireturn, 1) := by decide +kernel
theorem dL_law_511 : decode cL_law 511 = .ok (.aload_n 1, 1) := by decide +kernel
theorem dL_law_512 : decode cL_law 512 = .ok (.aload_n 0, 1) := by decide +kernel
theorem dL_law_513 : decode cL_law 513 = .ok (.iload_n 3, 1) := by decide +kernel
theorem dL_law_514 : decode cL_law 514 = .ok (.iconst 1, 1) := by decide +kernel
theorem dL_law_515 : decode cL_law 515 = .ok (.iadd, 1) := by decide +kernel
theorem dL_law_516 : decode cL_law 516 = .ok (.iaload, 1) := by decide +kernel
theorem dL_law_517 : decode cL_law 517 = .ok (.invokevirtual 60, 3) := by decide +kernel
theorem dL_law_520 : decode cL_law 520 = .ok (.aload_n 2, 1) := by decide +kernel
theorem dL_law_521 : decode cL_law 521 = .ok (.aload_n 0, 1) := by decide +kernel
theorem dL_law_522 : decode cL_law 522 = .ok (.iload_n 3, 1) := by decide +kernel
theorem dL_law_523 : decode cL_law 523 = .ok (.iconst 1, 1) := by decide +kernel
theorem dL_law_524 : decode cL_law 524 = .ok (.iadd, 1) := by decide +kernel
theorem dL_law_525 : decode cL_law 525 = .ok (.iaload, 1) := by decide +kernel
theorem dL_law_526 : decode cL_law 526 = .ok (.invokevirtual 63, 3) := by decide +kernel
theorem dL_law_529 : decode cL_law 529 = .ok (.if_icmp .eq 325, 3) := by decide +kernel
theorem dL_law_532 : decode cL_law 532 = .ok (.iconst 0, 1) := by decide +kernel
theorem dL_law_533 : decode cL_law 533 = .ok (.ireturn, 1) := by decide +kernel
theorem dL_law_534 : decode cL_law 534 = .ok (.aload_n 1, 1) := by decide +kernel
theorem dL_law_535 : decode cL_law 535 = .ok (.aload_n 0, 1) := by decide +kernel
theorem dL_law_536 : decode cL_law 536 = .ok (.iload_n 3, 1) := by decide +kernel
theorem dL_law_537 : decode cL_law 537 = .ok (.iconst 1, 1) := by decide +kernel
theorem dL_law_538 : decode cL_law 538 = .ok (.iadd, 1) := by decide +kernel
theorem dL_law_539 : decode cL_law 539 = .ok (.iaload, 1) := by decide +kernel
theorem dL_law_540 : decode cL_law 540 = .ok (.aload_n 0, 1) := by decide +kernel
theorem dL_law_541 : decode cL_law 541 = .ok (.iload_n 3, 1) := by decide +kernel
theorem dL_law_542 : decode cL_law 542 = .ok (.iconst 2, 1) := by decide +kernel
theorem dL_law_543 : decode cL_law 543 = .ok (.iadd, 1) := by decide +kernel
theorem dL_law_544 : decode cL_law 544 = .ok (.iaload, 1) := by decide +kernel
theorem dL_law_545 : decode cL_law 545 = .ok (.invokevirtual 64, 3) := by decide +kernel
theorem dL_law_548 : decode cL_law 548 = .ok (.aload_n 2, 1) := by decide +kernel
theorem dL_law_549 : decode cL_law 549 = .ok (.aload_n 0, 1) := by decide +kernel
theorem dL_law_550 : decode cL_law 550 = .ok (.iload_n 3, 1) := by decide +kernel
theorem dL_law_551 : decode cL_law 551 = .ok (.iconst 1, 1) := by decide +kernel
theorem dL_law_552 : decode cL_law 552 = .ok (.iadd, 1) := by decide +kernel
theorem dL_law_553 : decode cL_law 553 = .ok (.iaload, 1) := by decide +kernel
theorem dL_law_554 : decode cL_law 554 = .ok (.aload_n 0, 1) := by decide +kernel
theorem dL_law_555 : decode cL_law 555 = .ok (.iload_n 3, 1) := by decide +kernel
theorem dL_law_556 : decode cL_law 556 = .ok (.iconst 2, 1) := by decide +kernel
theorem dL_law_557 : decode cL_law 557 = .ok (.iadd, 1) := by decide +kernel
theorem dL_law_558 : decode cL_law 558 = .ok (.iaload, 1) := by decide +kernel
theorem dL_law_559 : decode cL_law 559 = .ok (.invokevirtual 67, 3) := by decide +kernel
theorem dL_law_562 : decode cL_law 562 = .ok (.if_icmp .eq 292, 3) := by decide +kernel
theorem dL_law_565 : decode cL_law 565 = .ok (.iconst 0, 1) := by decide +kernel
theorem dL_law_566 : decode cL_law 566 = .ok (.ireturn, 1) := by decide +kernel
theorem dL_law_567 : decode cL_law 567 = .ok (.aload_n 1, 1) := by decide +kernel
theorem dL_law_568 : decode cL_law 568 = .ok (.aload_n 0, 1) := by decide +kernel
theorem dL_law_569 : decode cL_law 569 = .ok (.iload_n 3, 1) := by decide +kernel
theorem dL_law_570 : decode cL_law 570 = .ok (.iconst 1, 1) := by decide +kernel
theorem dL_law_571 : decode cL_law 571 = .ok (.iadd, 1) := by decide +kernel
theorem dL_law_572 : decode cL_law 572 = .ok (.iaload, 1) := by decide +kernel
theorem dL_law_573 : decode cL_law 573 = .ok (.aload_n 0, 1) := by decide +kernel
theorem dL_law_574 : decode cL_law 574 = .ok (.iload_n 3, 1) := by decide +kernel
theorem dL_law_575 : decode cL_law 575 = .ok (.iconst 2, 1) := by decide +kernel
theorem dL_law_576 : decode cL_law 576 = .ok (.iadd, 1) := by decide +kernel
theorem dL_law_577 : decode cL_law 577 = .ok (.iaload, 1) := by decide +kernel
theorem dL_law_578 : decode cL_law 578 = .ok (.invokevirtual 68, 3) := by decide +kernel
theorem dL_law_581 : decode cL_law 581 = .ok (.aload_n 2, 1) := by decide +kernel
theorem dL_law_582 : decode cL_law 582 = .ok (.aload_n 0, 1) := by decide +kernel
theorem dL_law_583 : decode cL_law 583 = .ok (.iload_n 3, 1) := by decide +kernel
theorem dL_law_584 : decode cL_law 584 = .ok (.iconst 1, 1) := by decide +kernel
theorem dL_law_585 : decode cL_law 585 = .ok (.iadd, 1) := by decide +kernel
theorem dL_law_586 : decode cL_law 586 = .ok (.iaload, 1) := by decide +kernel
theorem dL_law_587 : decode cL_law 587 = .ok (.aload_n 0, 1) := by decide +kernel
theorem dL_law_588 : decode cL_law 588 = .ok (.iload_n 3, 1) := by decide +kernel
theorem dL_law_589 : decode cL_law 589 = .ok (.iconst 2, 1) := by decide +kernel
theorem dL_law_590 : decode cL_law 590 = .ok (.iadd, 1) := by decide +kernel
theorem dL_law_591 : decode cL_law 591 = .ok (.iaload, 1) := by decide +kernel
theorem dL_law_592 : decode cL_law 592 = .ok (.invokevirtual 71, 3) := by decide +kernel
theorem dL_law_595 : decode cL_law 595 = .ok (.if_icmp .eq 259, 3) := by decide +kernel
theorem dL_law_598 : decode cL_law 598 = .ok (.iconst 0, 1) := by decide +kernel
theorem dL_law_599 : decode cL_law 599 = .ok (.ireturn, 1) := by decide +kernel
theorem dL_law_600 : decode cL_law 600 = .ok (.aload_n 1, 1) := by decide +kernel
theorem dL_law_601 : decode cL_law 601 = .ok (.aload_n 0, 1) := by decide +kernel
theorem dL_law_602 : decode cL_law 602 = .ok (.iload_n 3, 1) := by decide +kernel
theorem dL_law_603 : decode cL_law 603 = .ok (.iconst 1, 1) := by decide +kernel
theorem dL_law_604 : decode cL_law 604 = .ok (.iadd, 1) := by decide +kernel
theorem dL_law_605 : decode cL_law 605 = .ok (.iaload, 1) := by decide +kernel
theorem dL_law_606 : decode cL_law 606 = .ok (.aload_n 0, 1) := by decide +kernel
theorem dL_law_607 : decode cL_law 607 = .ok (.iload_n 3, 1) := by decide +kernel
theorem dL_law_608 : decode cL_law 608 = .ok (.iconst 2, 1) := by decide +kernel
theorem dL_law_609 : decode cL_law 609 = .ok (.iadd, 1) := by decide +kernel
theorem dL_law_610 : decode cL_law 610 = .ok (.iaload, 1) := by decide +kernel
theorem dL_law_611 : decode cL_law 611 = .ok (.invokevirtual 72, 3) := by decide +kernel
theorem dL_law_614 : decode cL_law 614 = .ok (.aload_n 2, 1) := by decide +kernel
theorem dL_law_615 : decode cL_law 615 = .ok (.aload_n 0, 1) := by decide +kernel
theorem dL_law_616 : decode cL_law 616 = .ok (.iload_n 3, 1) := by decide +kernel
theorem dL_law_617 : decode cL_law 617 = .ok (.iconst 1, 1) := by decide +kernel
theorem dL_law_618 : decode cL_law 618 = .ok (.iadd, 1) := by decide +kernel
theorem dL_law_619 : decode cL_law 619 = .ok (.iaload, 1) := by decide +kernel
theorem dL_law_620 : decode cL_law 620 = .ok (.aload_n 0, 1) := by decide +kernel
theorem dL_law_621 : decode cL_law 621 = .ok (.iload_n 3, 1) := by decide +kernel
theorem dL_law_622 : decode cL_law 622 = .ok (.iconst 2, 1) := by decide +kernel
theorem dL_law_623 : decode cL_law 623 = .ok (.iadd, 1) := by decide +kernel
theorem dL_law_624 : decode cL_law 624 = .ok (.iaload, 1) := by decide +kernel
theorem dL_law_625 : decode cL_law 625 = .ok (.invokevirtual 75, 3) := by decide +kernel
theorem dL_law_628 : decode cL_law 628 = .ok (.if_icmp .eq 226, 3) := by decide +kernel
theorem dL_law_631 : decode cL_law 631 = .ok (.iconst 0, 1) := by decide +kernel
theorem dL_law_632 : decode cL_law 632 = .ok (.ireturn, 1) := by decide +kernel
theorem dL_law_633 : decode cL_law 633 = .ok (.aload_n 1, 1) := by decide +kernel
theorem dL_law_634 : decode cL_law 634 = .ok (.aload_n 0, 1) := by decide +kernel
theorem dL_law_635 : decode cL_law 635 = .ok (.iload_n 3, 1) := by decide +kernel
theorem dL_law_636 : decode cL_law 636 = .ok (.iconst 1, 1) := by decide +kernel
theorem dL_law_637 : decode cL_law 637 = .ok (.iadd, 1) := by decide +kernel
theorem dL_law_638 : decode cL_law 638 = .ok (.iaload, 1) := by decide +kernel
theorem dL_law_639 : decode cL_law 639 = .ok (.aload_n 0, 1) := by decide +kernel
theorem dL_law_640 : decode cL_law 640 = .ok (.iload_n 3, 1) := by decide +kernel
theorem dL_law_641 : decode cL_law 641 = .ok (.iconst 2, 1) := by decide +kernel
theorem dL_law_642 : decode cL_law 642 = .ok (.iadd, 1) := by decide +kernel
theorem dL_law_643 : decode cL_law 643 = .ok (.iaload, 1) := by decide +kernel
theorem dL_law_644 : decode cL_law 644 = .ok (.invokevirtual 76, 3) := by decide +kernel
theorem dL_law_647 : decode cL_law 647 = .ok (.aload_n 2, 1) := by decide +kernel
theorem dL_law_648 : decode cL_law 648 = .ok (.aload_n 0, 1) := by decide +kernel
theorem dL_law_649 : decode cL_law 649 = .ok (.iload_n 3, 1) := by decide +kernel
theorem dL_law_650 : decode cL_law 650 = .ok (.iconst 1, 1) := by decide +kernel
theorem dL_law_651 : decode cL_law 651 = .ok (.iadd, 1) := by decide +kernel
theorem dL_law_652 : decode cL_law 652 = .ok (.iaload, 1) := by decide +kernel
theorem dL_law_653 : decode cL_law 653 = .ok (.aload_n 0, 1) := by decide +kernel
theorem dL_law_654 : decode cL_law 654 = .ok (.iload_n 3, 1) := by decide +kernel
theorem dL_law_655 : decode cL_law 655 = .ok (.iconst 2, 1) := by decide +kernel
theorem dL_law_656 : decode cL_law 656 = .ok (.iadd, 1) := by decide +kernel
theorem dL_law_657 : decode cL_law 657 = .ok (.iaload, 1) := by decide +kernel
theorem dL_law_658 : decode cL_law 658 = .ok (.invokevirtual 79, 3) := by decide +kernel
theorem dL_law_661 : decode cL_law 661 = .ok (.if_icmp .eq 193, 3) := by decide +kernel
theorem dL_law_664 : decode cL_law 664 = .ok (.iconst 0, 1) := by decide +kernel
theorem dL_law_665 : decode cL_law 665 = .ok (.ireturn, 1) := by decide +kernel
theorem dL_law_666 : decode cL_law 666 = .ok (.aload_n 1, 1) := by decide +kernel
theorem dL_law_667 : decode cL_law 667 = .ok (.aload_n 0, 1) := by decide +kernel
theorem dL_law_668 : decode cL_law 668 = .ok (.iload_n 3, 1) := by decide +kernel
theorem dL_law_669 : decode cL_law 669 = .ok (.iconst 1, 1) := by decide +kernel
theorem dL_law_670 : decode cL_law 670 = .ok (.iadd, 1) := by decide +kernel
theorem dL_law_671 : decode cL_law 671 = .ok (.iaload, 1) := by decide +kernel
theorem dL_law_672 : decode cL_law 672 = .ok (.aload_n 0, 1) := by decide +kernel
theorem dL_law_673 : decode cL_law 673 = .ok (.iload_n 3, 1) := by decide +kernel
theorem dL_law_674 : decode cL_law 674 = .ok (.iconst 2, 1) := by decide +kernel
theorem dL_law_675 : decode cL_law 675 = .ok (.iadd, 1) := by decide +kernel
theorem dL_law_676 : decode cL_law 676 = .ok (.iaload, 1) := by decide +kernel
theorem dL_law_677 : decode cL_law 677 = .ok (.aload_n 0, 1) := by decide +kernel
theorem dL_law_678 : decode cL_law 678 = .ok (.iload_n 3, 1) := by decide +kernel
theorem dL_law_679 : decode cL_law 679 = .ok (.iconst 3, 1) := by decide +kernel
theorem dL_law_680 : decode cL_law 680 = .ok (.iadd, 1) := by decide +kernel
theorem dL_law_681 : decode cL_law 681 = .ok (.iaload, 1) := by decide +kernel
theorem dL_law_682 : decode cL_law 682 = .ok (.invokevirtual 80, 3) := by decide +kernel
theorem dL_law_685 : decode cL_law 685 = .ok (.aload_n 2, 1) := by decide +kernel
theorem dL_law_686 : decode cL_law 686 = .ok (.aload_n 0, 1) := by decide +kernel
theorem dL_law_687 : decode cL_law 687 = .ok (.iload_n 3, 1) := by decide +kernel
theorem dL_law_688 : decode cL_law 688 = .ok (.iconst 1, 1) := by decide +kernel
theorem dL_law_689 : decode cL_law 689 = .ok (.iadd, 1) := by decide +kernel
theorem dL_law_690 : decode cL_law 690 = .ok (.iaload, 1) := by decide +kernel
theorem dL_law_691 : decode cL_law 691 = .ok (.aload_n 0, 1) := by decide +kernel
theorem dL_law_692 : decode cL_law 692 = .ok (.iload_n 3, 1) := by decide +kernel
theorem dL_law_693 : decode cL_law 693 = .ok (.iconst 2, 1) := by decide +kernel
theorem dL_law_694 : decode cL_law 694 = .ok (.iadd, 1) := by decide +kernel
theorem dL_law_695 : decode cL_law 695 = .ok (.iaload, 1) := by decide +kernel
theorem dL_law_696 : decode cL_law 696 = .ok (.aload_n 0, 1) := by decide +kernel
theorem dL_law_697 : decode cL_law 697 = .ok (.iload_n 3, 1) := by decide +kernel
theorem dL_law_698 : decode cL_law 698 = .ok (.iconst 3, 1) := by decide +kernel
theorem dL_law_699 : decode cL_law 699 = .ok (.iadd, 1) := by decide +kernel
theorem dL_law_700 : decode cL_law 700 = .ok (.iaload, 1) := by decide +kernel
theorem dL_law_701 : decode cL_law 701 = .ok (.invokevirtual 83, 3) := by decide +kernel
theorem dL_law_704 : decode cL_law 704 = .ok (.if_icmp .eq 150, 3) := by decide +kernel
theorem dL_law_707 : decode cL_law 707 = .ok (.iconst 0, 1) := by decide +kernel
theorem dL_law_708 : decode cL_law 708 = .ok (.ireturn, 1) := by decide +kernel
theorem dL_law_709 : decode cL_law 709 = .ok (.aload_n 1, 1) := by decide +kernel
theorem dL_law_710 : decode cL_law 710 = .ok (.aload_n 0, 1) := by decide +kernel
theorem dL_law_711 : decode cL_law 711 = .ok (.iload_n 3, 1) := by decide +kernel
theorem dL_law_712 : decode cL_law 712 = .ok (.iconst 1, 1) := by decide +kernel
theorem dL_law_713 : decode cL_law 713 = .ok (.iadd, 1) := by decide +kernel
theorem dL_law_714 : decode cL_law 714 = .ok (.iaload, 1) := by decide +kernel
theorem dL_law_715 : decode cL_law 715 = .ok (.invokevirtual 84, 3) := by decide +kernel
theorem dL_law_718 : decode cL_law 718 = .ok (.aload_n 2, 1) := by decide +kernel
theorem dL_law_719 : decode cL_law 719 = .ok (.aload_n 0, 1) := by decide +kernel
theorem dL_law_720 : decode cL_law 720 = .ok (.iload_n 3, 1) := by decide +kernel
theorem dL_law_721 : decode cL_law 721 = .ok (.iconst 1, 1) := by decide +kernel
theorem dL_law_722 : decode cL_law 722 = .ok (.iadd, 1) := by decide +kernel
theorem dL_law_723 : decode cL_law 723 = .ok (.iaload, 1) := by decide +kernel
theorem dL_law_724 : decode cL_law 724 = .ok (.invokevirtual 87, 3) := by decide +kernel
theorem dL_law_727 : decode cL_law 727 = .ok (.if_icmp .eq 127, 3) := by decide +kernel
theorem dL_law_730 : decode cL_law 730 = .ok (.iconst 0, 1) := by decide +kernel
theorem dL_law_731 : decode cL_law 731 = .ok (.ireturn, 1) := by decide +kernel
theorem dL_law_732 : decode cL_law 732 = .ok (.aload_n 1, 1) := by decide +kernel
theorem dL_law_733 : decode cL_law 733 = .ok (.aload_n 0, 1) := by decide +kernel
theorem dL_law_734 : decode cL_law 734 = .ok (.iload_n 3, 1) := by decide +kernel
theorem dL_law_735 : decode cL_law 735 = .ok (.iconst 1, 1) := by decide +kernel
theorem dL_law_736 : decode cL_law 736 = .ok (.iadd, 1) := by decide +kernel
theorem dL_law_737 : decode cL_law 737 = .ok (.iaload, 1) := by decide +kernel
theorem dL_law_738 : decode cL_law 738 = .ok (.invokevirtual 88, 3) := by decide +kernel
theorem dL_law_741 : decode cL_law 741 = .ok (.aload_n 2, 1) := by decide +kernel
theorem dL_law_742 : decode cL_law 742 = .ok (.aload_n 0, 1) := by decide +kernel
theorem dL_law_743 : decode cL_law 743 = .ok (.iload_n 3, 1) := by decide +kernel
theorem dL_law_744 : decode cL_law 744 = .ok (.iconst 1, 1) := by decide +kernel
theorem dL_law_745 : decode cL_law 745 = .ok (.iadd, 1) := by decide +kernel
theorem dL_law_746 : decode cL_law 746 = .ok (.iaload, 1) := by decide +kernel
theorem dL_law_747 : decode cL_law 747 = .ok (.invokevirtual 91, 3) := by decide +kernel
theorem dL_law_750 : decode cL_law 750 = .ok (.if_icmp .eq 104, 3) := by decide +kernel
theorem dL_law_753 : decode cL_law 753 = .ok (.iconst 0, 1) := by decide +kernel
theorem dL_law_754 : decode cL_law 754 = .ok (.ireturn, 1) := by decide +kernel
theorem dL_law_755 : decode cL_law 755 = .ok (.aload_n 1, 1) := by decide +kernel
theorem dL_law_756 : decode cL_law 756 = .ok (.aload_n 0, 1) := by decide +kernel
theorem dL_law_757 : decode cL_law 757 = .ok (.iload_n 3, 1) := by decide +kernel
theorem dL_law_758 : decode cL_law 758 = .ok (.iconst 1, 1) := by decide +kernel
theorem dL_law_759 : decode cL_law 759 = .ok (.iadd, 1) := by decide +kernel
theorem dL_law_760 : decode cL_law 760 = .ok (.iaload, 1) := by decide +kernel
theorem dL_law_761 : decode cL_law 761 = .ok (.invokevirtual 92, 3) := by decide +kernel
theorem dL_law_764 : decode cL_law 764 = .ok (.aload_n 2, 1) := by decide +kernel
theorem dL_law_765 : decode cL_law 765 = .ok (.aload_n 0, 1) := by decide +kernel
theorem dL_law_766 : decode cL_law 766 = .ok (.iload_n 3, 1) := by decide +kernel
theorem dL_law_767 : decode cL_law 767 = .ok (.iconst 1, 1) := by decide +kernel
theorem dL_law_768 : decode cL_law 768 = .ok (.iadd, 1) := by decide +kernel
theorem dL_law_769 : decode cL_law 769 = .ok (.iaload, 1) := by decide +kernel
theorem dL_law_770 : decode cL_law 770 = .ok (.invokevirtual 95, 3) := by decide +kernel
theorem dL_law_773 : decode cL_law 773 = .ok (.if_icmp .eq 81, 3) := by decide +kernel
theorem dL_law_776 : decode cL_law 776 = .ok (.iconst 0, 1) := by decide +kernel
theorem dL_law_777 : decode cL_law 777 = .ok (.ireturn, 1) := by decide +kernel
theorem dL_law_778 : decode cL_law 778 = .ok (.aload_n 1, 1) := by decide +kernel
theorem dL_law_779 : decode cL_law 779 = .ok (.aload_n 0, 1) := by decide +kernel
theorem dL_law_780 : decode cL_law 780 = .ok (.iload_n 3, 1) := by decide +kernel
theorem dL_law_781 : decode cL_law 781 = .ok (.iconst 1, 1) := by decide +kernel
theorem dL_law_782 : decode cL_law 782 = .ok (.iadd, 1) := by decide +kernel
theorem dL_law_783 : decode cL_law 783 = .ok (.iaload, 1) := by decide +kernel
theorem dL_law_784 : decode cL_law 784 = .ok (.invokevirtual 96, 3) := by decide +kernel
theorem dL_law_787 : decode cL_law 787 = .ok (.aload_n 2, 1) := by decide +kernel
theorem dL_law_788 : decode cL_law 788 = .ok (.aload_n 0, 1) := by decide +kernel
theorem dL_law_789 : decode cL_law 789 = .ok (.iload_n 3, 1) := by decide +kernel
theorem dL_law_790 : decode cL_law 790 = .ok (.iconst 1, 1) := by decide +kernel
theorem dL_law_791 : decode cL_law 791 = .ok (.iadd, 1) := by decide +kernel
theorem dL_law_792 : decode cL_law 792 = .ok (.iaload, 1) := by decide +kernel
theorem dL_law_793 : decode cL_law 793 = .ok (.invokevirtual 99, 3) := by decide +kernel
theorem dL_law_796 : decode cL_law 796 = .ok (.if_icmp .eq 58, 3) := by decide +kernel
theorem dL_law_799 : decode cL_law 799 = .ok (.iconst 0, 1) := by decide +kernel
theorem dL_law_800 : decode cL_law 800 = .ok (.ireturn, 1) := by decide +kernel
theorem dL_law_801 : decode cL_law 801 = .ok (.aload_n 1, 1) := by decide +kernel
theorem dL_law_802 : decode cL_law 802 = .ok (.invokevirtual 100, 3) := by decide +kernel
theorem dL_law_805 : decode cL_law 805 = .ok (.aload_n 2, 1) := by decide +kernel
theorem dL_law_806 : decode cL_law 806 = .ok (.invokevirtual 104, 3) := by decide +kernel
theorem dL_law_809 : decode cL_law 809 = .ok (.if_icmp .eq 45, 3) := by decide +kernel
theorem dL_law_812 : decode cL_law 812 = .ok (.iconst 0, 1) := by decide +kernel
theorem dL_law_813 : decode cL_law 813 = .ok (.ireturn, 1) := by decide +kernel
theorem dL_law_814 : decode cL_law 814 = .ok (.aload_n 1, 1) := by decide +kernel
theorem dL_law_815 : decode cL_law 815 = .ok (.invokevirtual 105, 3) := by decide +kernel
theorem dL_law_818 : decode cL_law 818 = .ok (.aload_n 2, 1) := by decide +kernel
theorem dL_law_819 : decode cL_law 819 = .ok (.invokevirtual 108, 3) := by decide +kernel
theorem dL_law_822 : decode cL_law 822 = .ok (.if_icmp .eq 32, 3) := by decide +kernel
theorem dL_law_825 : decode cL_law 825 = .ok (.iconst 0, 1) := by decide +kernel
theorem dL_law_826 : decode cL_law 826 = .ok (.ireturn, 1) := by decide +kernel
theorem dL_law_827 : decode cL_law 827 = .ok (.aload_n 1, 1) := by decide +kernel
theorem dL_law_828 : decode cL_law 828 = .ok (.invokevirtual 109, 3) := by decide +kernel
theorem dL_law_831 : decode cL_law 831 = .ok (.aload_n 2, 1) := by decide +kernel
theorem dL_law_832 : decode cL_law 832 = .ok (.invokevirtual 112, 3) := by decide +kernel
theorem dL_law_835 : decode cL_law 835 = .ok (.if_icmp .eq 19, 3) := by decide +kernel
theorem dL_law_838 : decode cL_law 838 = .ok (.iconst 0, 1) := by decide +kernel
theorem dL_law_839 : decode cL_law 839 = .ok (.ireturn, 1) := by decide +kernel
theorem dL_law_840 : decode cL_law 840 = .ok (.aload_n 1, 1) := by decide +kernel
theorem dL_law_841 : decode cL_law 841 = .ok (.invokevirtual 113, 3) := by decide +kernel
theorem dL_law_844 : decode cL_law 844 = .ok (.aload_n 2, 1) := by decide +kernel
theorem dL_law_845 : decode cL_law 845 = .ok (.invokevirtual 117, 3) := by decide +kernel
theorem dL_law_848 : decode cL_law 848 = .ok (.lcmp, 1) := by decide +kernel
theorem dL_law_849 : decode cL_law 849 = .ok (.ifCond .eq 5, 3) := by decide +kernel
theorem dL_law_852 : decode cL_law 852 = .ok (.iconst 0, 1) := by decide +kernel
theorem dL_law_853 : decode cL_law 853 = .ok (.ireturn, 1) := by decide +kernel
theorem dL_law_854 : decode cL_law 854 = .ok (.iinc 3 4, 3) := by decide +kernel
theorem dL_law_857 : decode cL_law 857 = .ok (.goto (-839), 3) := by decide +kernel
theorem dL_law_860 : decode cL_law 860 = .ok (.iconst 1, 1) := by decide +kernel
theorem dL_law_861 : decode cL_law 861 = .ok (.ireturn, 1) := by decide +kernel
